section
variable {d : Nat} {M : am_M} {Q : am_Q} {a n : Nat}
theorem c_canBe {so pa x lim : Int32} (h : DL M a n) : am_big (d + 4) mX0_canBe [.ref a, .int so, .int pa, .int x, .int lim] 488 M Q = Q (some (.int (bz (decide (gI M a 3 < lim) && cbf M a n so pa x)))) M := by
  have hob := ob (a := a) (c := 0) (by have := h.1.1; omega) h.1.2.1
  have ht : ∀ so, tms (gI M (a + 1)) (gI M (a + 2)) so pa n ≤ 16 := fun so => Nat.le_trans (tms_le n) h.2.2
  have e3 : ∀ so, (nI (tms (gI M (a + 1)) (gI M (a + 2)) so pa n) < 3) = (tms (gI M (a + 1)) (gI M (a + 2)) so pa n < 3) := fun so => nI_ltE (b := 3) (by have := ht so; omega) (by omega)
  rw [eX0_canBe]
  simp only [sX0_canBe_0, sX0_canBe_1, sX0_canBe_4, sX0_canBe_6, sX0_canBe_9, sX0_canBe_10, sX0_canBe_13, sX0_canBe_14, sX0_canBe_16, sX0_canBe_19, sX0_canBe_20, sX0_canBe_21, sX0_canBe_22, sX0_canBe_25, sX0_canBe_26, sX0_canBe_29, sX0_canBe_30, sX0_canBe_32, sX0_canBe_35, sX0_canBe_36, sX0_canBe_37, sX0_canBe_40, sX0_canBe_43, sX0_canBe_44, sX0_canBe_47, sX0_canBe_48, sX0_canBe_49, sX0_canBe_50, sX0_canBe_51, sX0_canBe_54, sX0_canBe_57, sX0_canBe_58, sX0_canBe_59, sX0_canBe_60, sX0_canBe_92, sX0_canBe_93, sX0_canBe_94, sX0_canBe_97, sX0_canBe_99, sX0_canBe_102, sX0_canBe_103, sX0_canBe_104, sX0_canBe_105, sX0_canBe_108, sX0_canBe_109, sX0_canBe_112, sX0_canBe_113, sX0_canBe_116, sX0_canBe_117, sX0_canBe_118, sX0_canBe_119, sX0_canBe_120, sX0_canBe_123, sX0_canBe_124, sX0_canBe_126, sX0_canBe_129, sX0_canBe_130, sX0_canBe_131, sX0_canBe_134, sX0_canBe_137, sX0_canBe_138, sX0_canBe_139, sX0_canBe_142, sX0_canBe_145, sX0_canBe_146, sX0_canBe_147, sX0_canBe_148, sX0_canBe_151, sX0_canBe_152, sX0_canBe_155, sX0_canBe_156, sX0_canBe_159, sX0_canBe_160, sX0_canBe_161, sX0_canBe_162, sX0_canBe_163, sX0_canBe_166, sX0_canBe_167, sX0_canBe_168, sX0_canBe_171, sX0_canBe_174, sX0_canBe_175, sX0_canBe_176, sX0_canBe_179, sX0_canBe_181, sX0_canBe_184, sX0_canBe_185, sX0_canBe_186, sX0_canBe_189, sX0_canBe_192, sX0_canBe_193, sX0_canBe_194, sX0_canBe_195, sX0_canBe_198, sX0_canBe_201, sX0_canBe_202, sX0_canBe_205, sX0_canBe_206, sX0_canBe_207, sX0_canBe_208, sX0_canBe_209, sX0_canBe_212, sX0_canBe_214, sX0_canBe_217, sX0_canBe_218, sX0_canBe_219, sX0_canBe_222, sX0_canBe_225, sX0_canBe_226, sX0_canBe_227, sX0_canBe_230, sX0_canBe_233, sX0_canBe_234, sX0_canBe_237, sX0_canBe_238, sX0_canBe_239, sX0_canBe_240, kI_i, kL_l, kV_v, am_rv_s, am_kl_i, am_kl_r, am_kl_n, am_kl_l, true_and, and_true, and_self, true_or, or_true, implies_true, forall_const, not_true_eq_false, not_false_eq_true, false_implies, true_implies, hob, c_isThere h, c_isHidden h, c_under h, c_over h, c_timesOf h, c_standsOn h, bz_0, sw14, e3, ← Int32.not_lt]
  unfold cbf
  by_cases g1 : gI M a 3 < lim
  · by_cases g2 : pa < 0
    · have : ¬ 0 ≤ pa := fun q => absurd g2 (Int32.not_lt.mpr q)
      simp [g1, g2, this, bz]
    · have g2' : 0 ≤ pa := Int32.not_lt.mp g2
      by_cases g3 : pa < 6
      · simp only [g1, g2, g2', g3]
        by_cases s0 : so = 0
        · subst s0
          by_cases x0 : x < 0
          · have : ¬ 0 ≤ x := fun q => absurd x0 (Int32.not_lt.mpr q)
            simp [x0, this, bz]
          · have x0' : 0 ≤ x := Int32.not_lt.mp x0
            by_cases x9 : 9 < x
            · have : ¬ x ≤ 9 := fun q => absurd x9 (Int32.not_lt.mpr q)
              simp [x0, x0', x9, this, bz]
            · have : x ≤ 9 := Int32.not_lt.mp x9
              cases t : thr M a n pa <;> simp [x0, x0', x9, this, bz]
        · cases t : thr M a n pa with
          | false => simp [s0, bz]
          | true =>
            have hso : so = 1 ∨ so = 2 ∨ so = 3 ∨ so = 4 ∨ (¬ so = 1 ∧ ¬ so = 2 ∧ ¬ so = 3 ∧ ¬ so = 4) := by
              by_cases z1 : so = 1 <;> by_cases z2 : so = 2 <;> by_cases z3 : so = 3 <;> by_cases z4 : so = 4 <;> simp [*]
            rcases hso with rfl | rfl | rfl | rfl | ⟨y1, y2, y3, y4⟩
            · by_cases u : und M a n pa = 9 <;> by_cases v : tms (gI M (a + 1)) (gI M (a + 2)) 1 pa n < 3 <;> simp [u, v, bz]
            · by_cases x0 : x < 1
              · have : ¬ 1 ≤ x := fun q => absurd x0 (Int32.not_lt.mpr q)
                simp [x0, this, bz]
              · have x0' : 1 ≤ x := Int32.not_lt.mp x0
                by_cases x9 : 9 < x
                · have : ¬ x ≤ 9 := fun q => absurd x9 (Int32.not_lt.mpr q)
                  simp [x0, x0', x9, this, bz]
                · have : x ≤ 9 := Int32.not_lt.mp x9
                  cases hh : hid M a n pa <;> by_cases o : ovr (gI M (a + 1)) (gI M (a + 2)) (gI M (a + 3)) pa n = 0 <;> by_cases v : tms (gI M (a + 1)) (gI M (a + 2)) 2 pa n < 3 <;> simp [x0, x0', x9, this, o, v, bz]
            · by_cases xp : x = pa
              · simp [xp, bz]
              · cases tx : thr M a n x <;> by_cases u : und M a n pa = 9 <;> cases hh : hid M a n x <;> cases so : sOn (und M a n) pa 6 x <;> simp [xp, u, bz]
            · by_cases u : und M a n pa = 9 <;> cases hh : hid M a n pa <;> by_cases o : ovr (gI M (a + 1)) (gI M (a + 2)) (gI M (a + 3)) pa n = 0 <;> simp [u, o, bz]
            · simp [s0, y1, y2, y3, y4, bz]
      · simp [g1, g2, g2', g3, bz]
  · simp [g1, bz]
theorem c_tell {k : Nat} {w : Int32} (h : DL M a n) (hk : k < n) : am_big (d + 2) mX0_tell [.ref a, .int (nI k), .int w] 488 M Q = Q (some (.int (if w = 0 then gI M (a + 1) k else if w = 1 then gI M (a + 2) k else if w = 2 then gI M (a + 3) k else -1))) M := by
  have hn := h.2.2
  obtain ⟨h1, h2, h3, h4, h5, h6, h7, h8⟩ := h.1
  have hob := ob (a := a) (c := 0) (by omega) h2
  have ek : (nI k).toNatClampNeg = k := nI_clamp (by omega)
  have i1 := in1 (M := M) (k := k) (by omega : a + 1 < 488) h3 (by omega) (by omega)
  have i2 := in1 (M := M) (k := k) (by omega : a + 2 < 488) h4 (by omega) (by omega)
  have i3 := in1 (M := M) (k := k) (by omega : a + 3 < 488) h5 (by omega) (by omega)
  have hh : decide (0 ≤ nI k ∧ nI k < gI M a 3) = true := decide_eq_true ⟨nI_pos' (by omega), by rw [h.2.1]; exact nI_lt hk (by omega)⟩
  rw [eX0_tell]
  simp only [sX0_tell_0, sX0_tell_1, sX0_tell_2, sX0_tell_5, sX0_tell_8, sX0_tell_9, sX0_tell_10, sX0_tell_11, sX0_tell_36, sX0_tell_37, sX0_tell_40, sX0_tell_41, sX0_tell_42, sX0_tell_43, sX0_tell_44, sX0_tell_47, sX0_tell_48, sX0_tell_49, sX0_tell_50, sX0_tell_51, sX0_tell_54, sX0_tell_55, sX0_tell_56, sX0_tell_57, sX0_tell_58, kI_i, kL_l, kV_v, am_rv_s, am_kl_i, am_kl_r, am_kl_n, am_kl_l, true_and, and_true, and_self, true_or, or_true, implies_true, forall_const, not_true_eq_false, not_false_eq_true, false_implies, true_implies, hob, c_has h.1, hh, bz_t, i01, h6, h7, h8, i1, i2, i3, ek, sw02]
  by_cases w0 : w = 0
  · simp [w0]
  · by_cases w1 : w = 1
    · simp [w1]
    · by_cases w2 : w = 2 <;> simp [w0, w1, w2]
theorem c_tell0 {x w : Int32} (h : DLs M a) (hx : ¬ (0 ≤ x ∧ x < gI M a 3)) : am_big (d + 2) mX0_tell [.ref a, .int x, .int w] 488 M Q = Q (some (.int (-1))) M := by
  have hob := ob (a := a) (c := 0) (by have := h.1; omega) h.2.1
  have hh : decide (0 ≤ x ∧ x < gI M a 3) = false := decide_eq_false hx
  rw [eX0_tell]
  simp only [sX0_tell_0, sX0_tell_1, sX0_tell_2, sX0_tell_5, sX0_tell_8, sX0_tell_9, sX0_tell_10, sX0_tell_11, sX0_tell_36, sX0_tell_37, sX0_tell_40, sX0_tell_41, sX0_tell_42, sX0_tell_43, sX0_tell_44, sX0_tell_47, sX0_tell_48, sX0_tell_49, sX0_tell_50, sX0_tell_51, sX0_tell_54, sX0_tell_55, sX0_tell_56, sX0_tell_57, sX0_tell_58, kI_i, kL_l, kV_v, am_rv_s, am_kl_i, am_kl_r, am_kl_n, am_kl_l, true_and, and_true, and_self, true_or, or_true, implies_true, forall_const, not_true_eq_false, not_false_eq_true, false_implies, true_implies, hob, c_has h, hh, bz_f]
theorem c_add {so pa x : Int32} (h : DL M a n) (hn : n < 16) : am_big (d + 2) mX0_add [.ref a, .int so, .int pa, .int x] 488 M Q = Q none (addM M a n so pa x) := by
  obtain ⟨⟨h1, h2, h3, h4, h5, h6, h7, h8⟩, hsz, -⟩ := h
  have hob := ob (a := a) (c := 0) (by omega) h2
  have ek : (nI n).toNatClampNeg = n := nI_clamp (by omega)
  have i1 := iw (k := n) (by omega : a + 1 < 488) h3 (by omega) (by omega)
  have i2 := iw (k := n) (by omega : a + 2 < 488) h4 (by omega) (by omega)
  have i3 := iw (k := n) (by omega : a + 3 < 488) h5 (by omega) (by omega)
  have e16 : (nI n < 16) = True := eq_true (nI_lt (b := 16) hn (by omega))
  have r1 : ∀ (M : am_M) (v : Int32) (j : Nat), gI (sI M (a + 1) j v) a 3 = gI M a 3 := fun M v j => gI_o (by omega)
  have r2 : ∀ (M : am_M) (v : Int32) (j : Nat), gI (sI M (a + 2) j v) a 3 = gI M a 3 := fun M v j => gI_o (by omega)
  have r3 : ∀ (M : am_M) (v : Int32) (j : Nat), gI (sI M (a + 3) j v) a 3 = gI M a 3 := fun M v j => gI_o (by omega)
  rw [eX0_add]
  simp only [sX0_add_0, sX0_add_1, sX0_add_4, sX0_add_6, sX0_add_9, sX0_add_10, sX0_add_11, sX0_add_14, sX0_add_15, sX0_add_18, sX0_add_19, sX0_add_20, sX0_add_21, sX0_add_24, sX0_add_25, sX0_add_28, sX0_add_29, sX0_add_30, sX0_add_31, sX0_add_34, sX0_add_35, sX0_add_38, sX0_add_39, sX0_add_42, sX0_add_45, sX0_add_46, sX0_add_49, sX0_add_50, sX0_add_51, sX0_add_52, sX0_add_53, sX0_add_56, sX0_add_57, sX0_add_58, sX0_add_61, kI_i, kL_l, kV_v, am_rv_s, am_kl_i, am_kl_r, am_kl_n, am_kl_l, true_and, and_true, and_self, true_or, or_true, implies_true, forall_const, not_true_eq_false, not_false_eq_true, false_implies, true_implies, hob, hsz, e16, i1, i2, i3, h6, h7, h8, gR_sI, r1, r2, r3, ek, c_tellsX, nI_1, bz_0]
  unfold addM
  by_cases q : so = 0 ∨ so = 2 ∨ so = 3 <;> simp [q]
end
