/-! what stands at the start -/
def XZ (a j : Nat) : Prop := (j = 4 ∧ a < 457) ∨ (a = 392 ∧ j = 3) ∨ (a = 0 ∧ j = 16) ∨ (a = 457 ∧ (j = 29 ∨ j = 30)) ∨ a = 2000000
def Zr (sc : Nat → Int32) (M : am_M) : Prop := ∀ a j, (¬ XZ a j → gI M a j = 0) ∧ gL M a j = 0 ∧ gI M 2000000 j = sc j
def Eq3 (a j : Nat) (M N : am_M) : Prop := gI M a j = gI N a j ∧ gR M a j = gR N a j
section
variable {M N : am_M} {a j b k : Nat} {sc : Nat → Int32}
theorem zs {v : Int32} (h : Zr sc M) (hv : v = 0 ∨ XZ a j) (ha : a < 2000000) : Zr sc (sI M a j v) := fun b k => ⟨fun hX => by
  rw [gI_sI]
  split
  · rename_i z
    rcases hv with hv | hv
    · exact hv
    · rw [z.1, z.2] at hX; exact absurd hv hX
  · exact (h b k).1 hX, (h b k).2.1, by rw [gI_o (by omega)]; exact (h b k).2.2⟩
theorem zr {v : Option Nat} (h : Zr sc M) : Zr sc (sR M a j v) := h
theorem zl (h : Zr sc M) : Zr sc (sL M a j 0) := fun b k => ⟨(h b k).1, by
  rw [gL_sL]
  split
  · rfl
  · exact (h b k).2.1, (h b k).2.2⟩
theorem es {v : Int32} (h : Eq3 b k M N) : Eq3 b k (sI M a j v) (sI N a j v) := ⟨by rw [gI_sI, gI_sI, h.1], h.2⟩
theorem er {v : Option Nat} (h : Eq3 b k M N) : Eq3 b k (sR M a j v) (sR N a j v) := ⟨h.1, by rw [gR_sR, gR_sR, h.2]⟩
theorem el {v : Int64} (h : Eq3 b k M N) : Eq3 b k (sL M a j v) (sL N a j v) := h
theorem z_i0 (ha : a < 1000) (h : Zr sc M) : Zr sc (i0 M a) := zs (zr (zr (zr h))) (Or.inl rfl) (by omega)
theorem e_i0 (h : Eq3 b k M N) : Eq3 b k (i0 M a) (i0 N a) := es (er (er (er h)))
theorem z_i2 (ha : a < 1000) (h : Zr sc M) : Zr sc (i2 M a) := zs (zr (zr h)) (Or.inl rfl) (by omega)
theorem e_i2 (h : Eq3 b k M N) : Eq3 b k (i2 M a) (i2 N a) := es (er (er h))
theorem z_i8 (ha : a < 457) (h : Zr sc M) : Zr sc (i8 M a) := zs (zr (zr (zs (zs (zs (zr (zr (zr (z_i0 (by omega) (h))))) (Or.inl rfl) (by omega)) (Or.inr (by unfold XZ; omega)) (by omega)) (Or.inl rfl) (by omega)))) (Or.inl rfl) (by omega)
theorem e_i8 (h : Eq3 b k M N) : Eq3 b k (i8 M a) (i8 N a) := es (er (er (es (es (es (er (er (er (e_i0 (h))))))))))
theorem z_i9 (h : Zr sc M) : Zr sc (i9 M) := zs (zs (zr (h)) (Or.inl rfl) (by omega)) (Or.inl rfl) (by omega)
theorem e_i9 (h : Eq3 b k M N) : Eq3 b k (i9 M) (i9 N) := es (es (er (h)))
theorem z_i4 (h : Zr sc M) : Zr sc (i4 M) := zr (z_i2 (by omega) (h))
theorem e_i4 (h : Eq3 b k M N) : Eq3 b k (i4 M) (i4 N) := er (e_i2 (h))
theorem z_i5 (h : Zr sc M) : Zr sc (i5 M) := zr (zr (zr (zr (zr (zr (zs (zr (z_i0 (by omega) (h))) (Or.inl rfl) (by omega)))))))
theorem e_i5 (h : Eq3 b k M N) : Eq3 b k (i5 M) (i5 N) := er (er (er (er (er (er (es (er (e_i0 (h)))))))))
theorem z_i7 (h : Zr sc M) : Zr sc (i7 M) := zs (zr (zr (zr (zr (h))))) (Or.inl rfl) (by omega)
theorem e_i7 (h : Eq3 b k M N) : Eq3 b k (i7 M) (i7 N) := es (er (er (er (er (h)))))
theorem z_p6' (h : Zr sc M) : ∀ n, n ≤ 40 → Zr sc (p6 M n)
  | 0, _ => zs (zs (zr h) (Or.inl rfl) (by omega)) (Or.inl rfl) (by omega)
  | n + 1, hn => zr (z_i8 (by omega) (z_p6' h n (by omega)))
theorem z_p6 (h : Zr sc M) : Zr sc (p6 M 40) := z_p6' h 40 (Nat.le_refl _)
theorem e_p6 (h : Eq3 b k M N) : ∀ {n}, Eq3 b k (p6 M n) (p6 N n)
  | 0 => es (es (er h))
  | n + 1 => er (e_i8 (e_p6 h))
theorem z_p3' (h : Zr sc M) : ∀ n, n ≤ 4 → Zr sc (p3 M n)
  | 0, _ => zs (zs (zr (zr h)) (Or.inl rfl) (by omega)) (Or.inr (by unfold XZ; omega)) (by omega)
  | n + 1, hn => zr (z_i2 (by omega) (z_p3' h n (by omega)))
theorem z_p3 (h : Zr sc M) : Zr sc (p3 M 4) := z_p3' h 4 (Nat.le_refl _)
theorem e_p3 (h : Eq3 b k M N) : ∀ {n}, Eq3 b k (p3 M n) (p3 N n)
  | 0 => es (es (er (er h)))
  | n + 1 => er (e_i2 (e_p3 h))
theorem z_iC0 (h : Zr sc M) : Zr sc (iC0 M) := zs (zr (zl (zr (z_i7 (zr (z_i5 (zr (z_i0 (by omega) (zr (z_i0 (by omega) (zr (z_i0 (by omega) (zs (zr (zr (z_i4 (zr (z_p3 (zr (z_p6 (zs (zr (z_i8 (by omega) (zr (z_i8 (by omega) (zr (z_i8 (by omega) (zr (z_i9 (h))))))))) (Or.inl rfl) (by omega))))))))) (Or.inl rfl) (by omega)))))))))))))) (Or.inr (by unfold XZ; omega)) (by omega)
theorem e_iC0 (h : Eq3 b k M N) : Eq3 b k (iC0 M) (iC0 N) := es (er (el (er (e_i7 (er (e_i5 (er (e_i0 (er (e_i0 (er (e_i0 (es (er (er (e_i4 (er (e_p3 (er (e_p6 (es (er (e_i8 (er (e_i8 (er (e_i8 (er (e_i9 (h))))))))))))))))))))))))))))))
theorem z_iM (h : Zr sc M) : Zr sc (iM M) := zr (zr (zr (zr (zr (zr (zr (zr (zr (zr (zr (zr (zr (zr (zr (zr (zr (zr (zr (zr (zs (zs (zr (zr (zr (zr (zr (zr (zr (zr (zr (zr (zr (zr (h))))))))))))) (Or.inr (by unfold XZ; omega)) (by omega)) (Or.inr (by unfold XZ; omega)) (by omega)))))))))))))))))))))
theorem e_iM (h : Eq3 b k M N) : Eq3 b k (iM M) (iM N) := er (er (er (er (er (er (er (er (er (er (er (er (er (er (er (er (er (er (er (er (es (es (er (er (er (er (er (er (er (er (er (er (er (er (h))))))))))))))))))))))))))))))))))
theorem z_iP' (h : Zr sc M) : ∀ n, n ≤ 4 → Zr sc (iP M n)
  | 0, _ => z_iC0 h
  | n + 1, hn => zr (z_i0 (by omega) (z_iP' h n (by omega)))
theorem z_iP (h : Zr sc M) : Zr sc (iP M 4) := z_iP' h 4 (Nat.le_refl _)
theorem e_iP (h : Eq3 b k M N) : ∀ {n}, Eq3 b k (iP M n) (iP N n)
  | 0 => e_iC0 h
  | n + 1 => er (e_i0 (e_iP h))
theorem z_iA (h : Zr sc M) : Zr sc (iA M) := z_iM (z_iP h)
theorem e_iA (h : Eq3 b k M N) : Eq3 b k (iA M) (iA N) := e_iM (e_iP h)
end
def Z0 : am_M := (fun _ _ => 0, fun _ _ => 0, fun _ _ => none)
/-- the memory at the start: nothing but the script -/
def mS (sc : Nat → Int32) : am_M := (fun a j => if a = 2000000 then sc j else 0, fun _ _ => 0, fun _ _ => none)
set_option maxRecDepth 100000 in
theorem wr_Z : ∀ a, a < 488 → ∀ j, j < (am_Rl.getD a []).length → (rfT a j = none ∨ gR (iA Z0) a j = rfT a j) := by decide +kernel
set_option maxRecDepth 100000 in
theorem gi_Z : gI (iA Z0) 3 4 = 12 ∧ gI (iA Z0) 392 3 = -1 ∧ gI (iA Z0) 0 16 = 3 ∧ gI (iA Z0) 457 29 = -1 ∧ gI (iA Z0) 457 30 = 3 ∧ gI (iA Z0) 0 4 = 0 ∧ gI (iA Z0) 435 4 = 0 := by decide +kernel
theorem rl_len : am_Rl.length ≤ 488 := by decide +kernel
section
variable {sc : Nat → Int32}
theorem eS (a j : Nat) (ha : a ≠ 2000000) : Eq3 a j (iA (mS sc)) (iA Z0) := e_iA ⟨by show (if a = 2000000 then sc j else 0) = 0; rw [if_neg ha], rfl⟩
theorem zS : Zr sc (iA (mS sc)) := z_iA (fun a j => ⟨fun hX => by
  show (if a = 2000000 then sc j else 0) = 0
  rw [if_neg (fun z => hX (by unfold XZ; omega))], rfl, by
  show (if 2000000 = 2000000 then sc j else 0) = sc j
  rw [if_pos rfl]⟩)
theorem wrS : WR (iA (mS sc)) := fun a j v e => by
  have e' := e
  unfold rfT at e
  have hj : j < (am_Rl.getD a []).length := by
    by_cases z : j < (am_Rl.getD a []).length
    · exact z
    · rw [List.getD_eq_getElem?_getD, List.getElem?_eq_none (by omega)] at e; cases e
  have ha : a < 488 := by
    by_cases z : a < am_Rl.length
    · have := rl_len; omega
    · rw [List.getD_eq_getElem?_getD, List.getElem?_eq_none (by omega)] at hj
      exact absurd hj (Nat.not_lt_zero j)
  rw [(eS a j (by omega)).2]
  rcases wr_Z a ha j hj with q | q
  · rw [e'] at q; cases q
  · rw [q]; exact e'
theorem IV_start : IV sc (iA (mS sc)) := by
  have W := wrS (sc := sc)
  have z : ∀ a j, ¬ XZ a j → gI (iA (mS sc)) a j = 0 := fun a j h => (zS (sc := sc) a j).1 h
  have zL : ∀ a j, gL (iA (mS sc)) a j = 0 := fun a j => (zS (sc := sc) a j).2.1
  have g1 : gI (iA (mS sc)) 3 4 = 12 := (eS 3 4 (by omega)).1.trans gi_Z.1
  have g2 : gI (iA (mS sc)) 392 3 = -1 := (eS 392 3 (by omega)).1.trans gi_Z.2.1
  have g3 : gI (iA (mS sc)) 0 16 = 3 := (eS 0 16 (by omega)).1.trans gi_Z.2.2.1
  have g4 : gI (iA (mS sc)) 457 29 = -1 := (eS 457 29 (by omega)).1.trans gi_Z.2.2.2.1
  have g5 : gI (iA (mS sc)) 457 30 = 3 := (eS 457 30 (by omega)).1.trans gi_Z.2.2.2.2.1
  have g6 : gI (iA (mS sc)) 0 4 = 0 := (eS 0 4 (by omega)).1.trans gi_Z.2.2.2.2.2.1
  have g7 : gI (iA (mS sc)) 435 4 = 0 := (eS 435 4 (by omega)).1.trans gi_Z.2.2.2.2.2.2
  have st := STs_3 W
  refine ⟨W, fun j => (zS (sc := sc) 0 j).2.2, [], 0, 12, 0, ([], fun _ => 0, 0, 0, []), [], none, [], -1, [], 3, [], ⟨⟨z _ _ (by unfold XZ; omega), by simp, fun k hk => (by cases hk)⟩, ⟨z _ _ (by unfold XZ; omega), z _ _ (by unfold XZ; omega), z _ _ (by unfold XZ; omega)⟩, ⟨st, ⟨⟨st.2.2.1, z _ _ (by unfold XZ; omega), by show (0 : Nat) ≤ 16; omega⟩, fun k t hk => (by cases hk)⟩, z _ _ (by unfold XZ; omega), g1, z _ _ (by unfold XZ; omega), fun i hi => (by omega), ⟨0, z _ _ (by unfold XZ; omega), Nat.le_refl _, rfl, fun i hi => (by cases hi)⟩, by omega, by show (0 : Nat) ≤ 9999; omega⟩, ⟨0, by omega, z _ _ (by unfold XZ; omega), z _ _ (by unfold XZ; omega), by simp, fun i hi => (by cases hi)⟩, ⟨g6, fun I hI => (by cases hI)⟩, ⟨z _ _ (by unfold XZ; omega), g2, by simp, fun t ht => (by cases ht), Or.inl rfl, fun i hi => (by cases hi)⟩, ⟨z _ _ (by unfold XZ; omega), by simp, fun i hi => (by cases hi)⟩, g3, ⟨g7, by simp, fun i hi => (by cases hi)⟩⟩, ⟨⟨z _ _ (by unfold XZ; omega), by simp, fun k hk => (by cases hk)⟩, ⟨by show (0 : Nat) ≤ 12; omega, z _ _ (by unfold XZ; omega), fun k t hk => (by cases hk), fun i hi => (by omega), ⟨z _ _ (by unfold XZ; omega), by show (0 : Nat) < 16; omega, by omega⟩, z _ _ (by unfold XZ; omega), z _ _ (by unfold XZ; omega), by show (0 : Nat) ≤ 60; omega, fun i hi => (by cases hi)⟩, ⟨z _ _ (by unfold XZ; omega), by simp, fun i hi => (by cases hi)⟩, ⟨z _ _ (by unfold XZ; omega), z _ _ (by unfold XZ; omega)⟩, ⟨z _ _ (by unfold XZ; omega), fun I hI => (by cases hI)⟩, ⟨z _ _ (by unfold XZ; omega), g4, by simp, fun t ht => (by cases ht), Or.inl rfl, fun i hi => (by cases hi), fun s hs => Or.inl (zL 479 s), ⟨fun _ => 0, fun x j _ _ _ => ⟨z _ _ (by unfold XZ; omega), (by show Bd 0; unfold Bd; decide)⟩⟩⟩, ⟨z _ _ (by unfold XZ; omega), by simp, fun i hi => (by cases hi)⟩, g5, ⟨z _ _ (by unfold XZ; omega), by simp, fun i hi => (by cases hi)⟩⟩, ⟨fun c hc => (by cases hc), by omega, by omega, Or.inl rfl, ⟨WF_nil, T3_nil⟩, fun p hp => (by cases hp), fun I hI => (by cases hI)⟩⟩
/-- the law, on every script: it comes to its end, and answers true -/
theorem law_all {Q : am_Q} {len : Nat} (hQ : ∀ M', Q (some (.int 1)) M') (h1000 : sc 1000 = nI len) (hl : len ≤ 384) : ok 40 (mLk (cntA sc (len / 6))) 0 Q 0 0 0 0 [some (.ref 2000000), none, none, none, none, none, none] [] (mS sc) ∧ cntA sc (len / 6) ≤ 64 := by
  refine ⟨?_, Nat.le_trans (cntA_n _) (by omega)⟩
  rw [L_start]
  exact L_loop (N := len / 6) hQ h1000 hl (by omega) (by omega) rfl (len / 6) 0 _ none none (by omega) IV_start
end
