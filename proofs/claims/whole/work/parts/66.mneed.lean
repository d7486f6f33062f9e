section
variable {M : am_M} {o : Nat} {l : List Dd} {d : Nat} {Q : am_Q}
theorem Pc_get (h : PcM M o 0 l) {k : Nat} (hk : k < l.length) : gI M o (3 * k) = sf l k ∧ gI M o (3 * k + 1) = pf l k ∧ gI M o (3 * k + 2) = xf l k := by
  have := h.2.2 k l[k] (List.getElem?_eq_getElem hk)
  simp only [Nat.zero_add] at this
  obtain ⟨e1, e2, e3⟩ := sf_get hk
  rw [e1, e2, e3]
  exact this
theorem sw_is {s : Nat} (h : s < 5) : nI s = 0 ∨ nI s = 1 ∨ nI s = 2 ∨ nI s = 3 ∨ nI s = 4 := by
  have : s = 0 ∨ s = 1 ∨ s = 2 ∨ s = 3 ∨ s = 4 := by omega
  rcases this with rfl | rfl | rfl | rfl | rfl
  · exact Or.inl rfl
  · exact Or.inr (Or.inl rfl)
  · exact Or.inr (Or.inr (Or.inl rfl))
  · exact Or.inr (Or.inr (Or.inr (Or.inl rfl)))
  · exact Or.inr (Or.inr (Or.inr (Or.inr rfl)))
theorem WF_is {l : List Dd} (h : WFl l) {k : Nat} (hk : k < l.length) : is5 (sf l k) := by
  obtain ⟨s, p, x, e1, e2, e3, b1, b2, b3, b4⟩ := WF_at h hk
  rw [e1]; exact sw_is b1
theorem m_needs0 {i e : Nat} (ho : RW o) (h : PcM M o 0 l) (hw : WFl l) (hi : i < l.length) (he : e < l.length) : am_big (d + 1) mX11_needs0 [.ref o, .int (nI i), .int (nI e)] 488 M Q = Q (some (.int (bz (lnL l i e)))) M := by
  have hl := h.1
  obtain ⟨g1, g2, g3⟩ := Pc_get h hi
  obtain ⟨k1, k2, k3⟩ := Pc_get h he
  have i1 := fun M => rw_in (M := M) ho (k := 3 * i) (by omega)
  have i2 := fun M => rw_in (M := M) ho (k := 3 * i + 1) (by omega)
  have i3 := fun M => rw_in (M := M) ho (k := 3 * i + 2) (by omega)
  have j1 := fun M => rw_in (M := M) ho (k := 3 * e) (by omega)
  have j2 := fun M => rw_in (M := M) ho (k := 3 * e + 1) (by omega)
  have hs := WF_is hw hi
  have hs2 := WF_is hw he
  rw [eX11_needs0]
  unfold lnL lnn lnf
  simp (disch := (first | assumption | omega | decide)) only [sX11_needs0_0, sX11_needs0_1, sX11_needs0_2, sX11_needs0_3, sX11_needs0_4, sX11_needs0_5, sX11_needs0_6, sX11_needs0_7, sX11_needs0_8, sX11_needs0_9, sX11_needs0_10, sX11_needs0_11, sX11_needs0_12, sX11_needs0_13, sX11_needs0_15, sX11_needs0_16, sX11_needs0_17, sX11_needs0_18, sX11_needs0_19, sX11_needs0_20, sX11_needs0_21, sX11_needs0_22, sX11_needs0_24, sX11_needs0_25, sX11_needs0_26, sX11_needs0_27, sX11_needs0_28, sX11_needs0_29, sX11_needs0_31, sX11_needs0_32, sX11_needs0_33, sX11_needs0_34, sX11_needs0_35, sX11_needs0_36, sX11_needs0_37, sX11_needs0_38, sX11_needs0_40, sX11_needs0_42, sX11_needs0_45, sX11_needs0_47, sX11_needs0_49, sX11_needs0_52, sX11_needs0_53, sX11_needs0_54, sX11_needs0_57, sX11_needs0_59, sX11_needs0_61, sX11_needs0_64, sX11_needs0_65, sX11_needs0_68, sX11_needs0_69, sX11_needs0_70, sX11_needs0_71, sX11_needs0_72, sX11_needs0_75, sX11_needs0_77, sX11_needs0_78, sX11_needs0_81, sX11_needs0_83, sX11_needs0_85, sX11_needs0_88, sX11_needs0_89, sX11_needs0_92, sX11_needs0_93, sX11_needs0_94, sX11_needs0_95, sX11_needs0_96, sX11_needs0_99, sX11_needs0_101, sX11_needs0_102, sX11_needs0_105, sX11_needs0_107, sX11_needs0_109, sX11_needs0_112, sX11_needs0_113, sX11_needs0_116, sX11_needs0_117, sX11_needs0_118, sX11_needs0_119, sX11_needs0_120, sX11_needs0_123, sX11_needs0_125, sX11_needs0_126, sX11_needs0_129, sX11_needs0_131, sX11_needs0_133, sX11_needs0_136, sX11_needs0_138, sX11_needs0_139, sX11_needs0_142, sX11_needs0_144, sX11_needs0_146, sX11_needs0_149, sX11_needs0_150, sX11_needs0_153, sX11_needs0_154, sX11_needs0_155, sX11_needs0_156, sX11_needs0_157, sX11_needs0_160, sX11_needs0_162, sX11_needs0_164, sX11_needs0_167, sX11_needs0_169, sX11_needs0_170, sX11_needs0_173, sX11_needs0_174, sX11_needs0_177, sX11_needs0_178, kI_i, kL_l, kV_v, am_rv_s, am_kl_i, am_kl_r, am_kl_n, am_kl_l, true_and, and_true, and_self, true_or, or_true, implies_true, forall_const, not_true_eq_false, not_false_eq_true, false_implies, true_implies, if_true, if_false, Bool.true_eq_false, Bool.false_eq_true, nI_m3, nI_1, nI_2, i1, i2, i3, j1, j2, nI_clamp, g1, g2, g3, k1, k2]
  generalize sf l i = so at hs
  generalize pf l i = po
  generalize xf l i = xo
  generalize sf l e = s2 at hs2
  generalize pf l e = p2
  unfold is5 at hs hs2
  by_cases q3 : p2 = xo
  · subst q3
    by_cases q1 : p2 = po
    · subst q1
      rcases hs with rfl | rfl | rfl | rfl | rfl <;> rcases hs2 with rfl | rfl | rfl | rfl | rfl <;> simp [bz]
    · rcases hs with rfl | rfl | rfl | rfl | rfl <;> rcases hs2 with rfl | rfl | rfl | rfl | rfl <;> simp [q1, bz]
  · by_cases q1 : p2 = po
    · subst q1
      rcases hs with rfl | rfl | rfl | rfl | rfl <;> rcases hs2 with rfl | rfl | rfl | rfl | rfl <;> simp [q3, bz]
    · rcases hs with rfl | rfl | rfl | rfl | rfl <;> rcases hs2 with rfl | rfl | rfl | rfl | rfl <;> simp [q1, q3, bz]
theorem m_canTake {e : Nat} (hW : WR M) (h : PcM M 465 0 l) (hw : WFl l) (he : e < l.length) : am_big (d + 2) mX11_canTake [.ref 457, .int (nI e)] 488 M Q = Q (some (.int (bz (ctL l e)))) M := by
  have hl := h.1
  have g36 : gI M 465 36 = nI l.length := by have := h.2.1; rwa [Nat.zero_add] at this
  rw [eX11_canTake]
  simp (disch := (first | assumption | omega | decide)) only [sX11_canTake_0, sX11_canTake_1, sX11_canTake_2, sX11_canTake_3, sX11_canTake_5, sX11_canTake_6, sX11_canTake_9, sX11_canTake_11, sX11_canTake_12, sX11_canTake_15, sX11_canTake_16, sX11_canTake_19, sX11_canTake_20, sX11_canTake_21, sX11_canTake_24, sX11_canTake_27, sX11_canTake_28, sX11_canTake_29, sX11_canTake_32, sX11_canTake_35, sX11_canTake_36, kI_i, kL_l, kV_v, am_rv_s, am_kl_i, am_kl_r, am_kl_n, am_kl_l, true_and, and_true, and_self, true_or, or_true, implies_true, forall_const, not_true_eq_false, not_false_eq_true, false_implies, true_implies, if_true, if_false, Bool.true_eq_false, Bool.false_eq_true, nI_1]
  unfold ctL
  have key : ∀ (j k : Nat), k + j = l.length → e < k → ok (d + 1) mX11_canTake 488 Q 488 0 0 4 [some (.ref 457), some (.int (nI e)), some (.int (nI k))] [] M = Q (some (.int (bz (alf (fun t => !lnL l t e) k j)))) M := by
    intro j
    induction j with
    | zero =>
      intro k hk _
      have e0 : k = l.length := by omega
      subst e0
      rw [sX11_canTake_4]
      simp (disch := (first | assumption | omega | decide)) only [sX11_canTake_0, sX11_canTake_1, sX11_canTake_2, sX11_canTake_3, sX11_canTake_5, sX11_canTake_6, sX11_canTake_9, sX11_canTake_11, sX11_canTake_12, sX11_canTake_15, sX11_canTake_16, sX11_canTake_19, sX11_canTake_20, sX11_canTake_21, sX11_canTake_24, sX11_canTake_27, sX11_canTake_28, sX11_canTake_29, sX11_canTake_32, sX11_canTake_35, sX11_canTake_36, kI_i, kL_l, kV_v, am_rv_s, am_kl_i, am_kl_r, am_kl_n, am_kl_l, true_and, and_true, and_self, true_or, or_true, implies_true, forall_const, not_true_eq_false, not_false_eq_true, false_implies, true_implies, if_true, if_false, Bool.true_eq_false, Bool.false_eq_true, ob_457, r_457_27, n36, in_465, nI_clamp, g36, Int32.le_refl, alf, bz_t]
    | succ j ih =>
      intro k hk hek
      have e0 : (nI l.length ≤ nI k) = False := by rw [nI_leE (by omega) (by omega)]; exact eq_false (by omega)
      rw [sX11_canTake_4]
      unfold alf
      cases c : lnL l k e with
      | true => simp (disch := (first | assumption | omega | decide)) only [sX11_canTake_0, sX11_canTake_1, sX11_canTake_2, sX11_canTake_3, sX11_canTake_5, sX11_canTake_6, sX11_canTake_9, sX11_canTake_11, sX11_canTake_12, sX11_canTake_15, sX11_canTake_16, sX11_canTake_19, sX11_canTake_20, sX11_canTake_21, sX11_canTake_24, sX11_canTake_27, sX11_canTake_28, sX11_canTake_29, sX11_canTake_32, sX11_canTake_35, sX11_canTake_36, kI_i, kL_l, kV_v, am_rv_s, am_kl_i, am_kl_r, am_kl_n, am_kl_l, true_and, and_true, and_self, true_or, or_true, implies_true, forall_const, not_true_eq_false, not_false_eq_true, false_implies, true_implies, if_true, if_false, Bool.true_eq_false, Bool.false_eq_true, ob_457, r_457_27, n36, in_465, nI_clamp, g36, e0, m_needs0 (Or.inl rfl) h hw (by omega : k < l.length) he, c, bz_t, i01, Bool.not_true, Bool.false_and, bz_f]
      | false => simp (disch := (first | assumption | omega | decide)) only [sX11_canTake_0, sX11_canTake_1, sX11_canTake_2, sX11_canTake_3, sX11_canTake_5, sX11_canTake_6, sX11_canTake_9, sX11_canTake_11, sX11_canTake_12, sX11_canTake_15, sX11_canTake_16, sX11_canTake_19, sX11_canTake_20, sX11_canTake_21, sX11_canTake_24, sX11_canTake_27, sX11_canTake_28, sX11_canTake_29, sX11_canTake_32, sX11_canTake_35, sX11_canTake_36, kI_i, kL_l, kV_v, am_rv_s, am_kl_i, am_kl_r, am_kl_n, am_kl_l, true_and, and_true, and_self, true_or, or_true, implies_true, forall_const, not_true_eq_false, not_false_eq_true, false_implies, true_implies, if_true, if_false, Bool.true_eq_false, Bool.false_eq_true, ob_457, r_457_27, n36, in_465, nI_clamp, g36, e0, m_needs0 (Or.inl rfl) h hw (by omega : k < l.length) he, c, bz_f, Bool.not_false, Bool.true_and, nI_1, ih (k + 1) (by omega) (by omega)]
  exact key (l.length - (e + 1)) (e + 1) (by omega) (by omega)
end
