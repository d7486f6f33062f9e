def i9 (M : am_M) : am_M := sI (sI (sR M 1 0 (some 2)) 1 1 0) 1 2 0
def i4 (M : am_M) : am_M := sR (i2 M 408) 407 0 (some 408)
def i5 (M : am_M) : am_M := sR (sR (sR (sR (sR (sR (sI (sR (i0 M 425) 424 0 (some 425)) 424 1 0) 424 2 (some 429)) 424 3 (some 430)) 424 4 (some 431)) 424 5 (some 432)) 424 6 (some 433)) 424 7 (some 434)
def i7 (M : am_M) : am_M := sI (sR (sR (sR (sR M 435 0 (some 436)) 435 1 (some 437)) 435 2 (some 438)) 435 3 (some 439)) 435 4 0
def iC0 (M : am_M) : am_M := sI (sR (sL (sR (i7 (sR (i5 (sR (i0 (sR (i0 (sR (i0 (sI (sR (sR (i4 (sR (p3 (sR (p6 (sI (sR (i8 (sR (i8 (sR (i8 (sR (i9 M) 0 0 (some 1)) 3) 0 1 (some 3)) 12) 0 2 (some 12)) 21) 0 3 (some 21)) 0 4 0) 40) 0 5 (some 30)) 4) 0 6 (some 392))) 0 7 (some 407)) 0 8 (some 411)) 0 9 0) 412) 0 10 (some 412)) 416) 0 11 (some 416)) 420) 0 12 (some 420))) 0 13 (some 424))) 0 14 (some 435)) 440 0 0) 0 15 (some 440)) 0 16 3
def iP (M : am_M) : Nat → am_M
  | 0 => iC0 M
  | k + 1 => sR (i0 (iP M k) (441 + 4 * k)) 411 k (some (441 + 4 * k))
def iM (M : am_M) : am_M := sR (sR (sR (sR (sR (sR (sR (sR (sR (sR (sR (sR (sR (sR (sR (sR (sR (sR (sR (sR (sI (sI (sR (sR (sR (sR (sR (sR (sR (sR (sR (sR (sR (sR M 457 1 (some 458)) 457 2 (some 459)) 457 3 (some 460)) 457 4 (some 461)) 457 5 (some 458)) 457 15 (some 1000000)) 457 16 (some 1000001)) 457 18 (some 462)) 457 19 (some 463)) 457 20 (some 464)) 457 27 (some 465)) 457 28 (some 466)) 457 29 (-1)) 457 30 3) 457 31 (some 467)) 457 32 (some 468)) 457 33 (some 469)) 457 34 (some 470)) 457 35 (some 471)) 457 36 (some 472)) 457 37 (some 473)) 457 38 (some 474)) 457 39 (some 475)) 457 40 (some 476)) 457 43 (some 477)) 457 44 (some 478)) 457 45 (some 479)) 457 46 (some 480)) 457 47 (some 481)) 457 48 (some 482)) 457 49 (some 483)) 457 50 (some 484)) 457 51 (some 485)) 457 53 (some 486)
def iA (M : am_M) : am_M := iM (iP M 4)
theorem tE {n : Nat} {t : Nat × Nat} (h : am_T n = t) : (am_T n = t) = True := eq_true h
theorem mk1L {kk : Nat} {P : am_P} {kd n c w pc : Nat} {ls : List (Option Value)} {r : List Value} {M : am_M} (hn : n < 488) (hT : am_T n = (kd, 1)) (hc : c + 1 ≤ 488 + 8 * kk) (hw : w + 1 ≤ 103327 + 64 * kk) : am_mk (mLk kk) P kd 1 n c w pc ls r M = P (n + 1) (c + 1) (w + 1) pc ls (.ref n :: r) M := mkE (by decide) (by decide) (by omega) hn hT hc hw
section
variable {M : am_M} {d : Nat} {Q : am_Q}
set_option maxRecDepth 100000 in
theorem c_init9 : am_big (d + 1) mX9_init [.ref 1] 2 M Q = Q none (i9 M) := by
  have rt : am_ret mX9_init 2 3 1 240 = True := eq_true ⟨rfl, rfl, rfl⟩
  rw [eX9_init]
  simp (disch := (first | assumption | omega | rfl | decide)) only [sX9_init_0, sX9_init_1, sX9_init_4, sX9_init_5, sX9_init_8, sX9_init_10, sX9_init_13, sX9_init_14, sX9_init_15, sX9_init_18, sX9_init_19, sX9_init_20, sX9_init_23, kI_i, kL_l, kV_v, am_rv_s, am_kl_i, am_kl_r, am_kl_n, am_kl_l, true_and, and_true, and_self, true_or, or_true, implies_true, forall_const, not_true_eq_false, not_false_eq_true, false_implies, true_implies, if_true, if_false, Bool.true_eq_false, Bool.false_eq_true, Nat.reduceAdd, obs, ltN, tE, leT, rt, mk240]
  rfl
set_option maxRecDepth 100000 in
theorem c_init4 : am_big (d + 2) mX4_init [.ref 407] 408 M Q = Q none (i4 M) := by
  have rt : am_ret mX4_init 408 411 3 547 = True := eq_true ⟨rfl, rfl, rfl⟩
  have e2 : ∀ d (Q : am_Q) (M : am_M), am_big (d + 1) mX2_init [.ref 408] 409 M Q = Q none (i2 M 408) := fun d Q M => c_init2 (a := 408) (by omega) rfl rfl rfl
  rw [eX4_init]
  simp (disch := (first | assumption | omega | rfl | decide)) only [sX4_init_0, sX4_init_1, sX4_init_4, sX4_init_5, sX4_init_8, sX4_init_9, sX4_init_12, sX4_init_15, kI_i, kL_l, kV_v, am_rv_s, am_kl_i, am_kl_r, am_kl_n, am_kl_l, true_and, and_true, and_self, true_or, or_true, implies_true, forall_const, not_true_eq_false, not_false_eq_true, false_implies, true_implies, if_true, if_false, Bool.true_eq_false, Bool.false_eq_true, Nat.reduceAdd, obs, ltN, tE, leT, rt, e2]
  rfl
set_option maxRecDepth 100000 in
theorem c_init5 : am_big (d + 2) mX5_init [.ref 424] 425 M Q = Q none (i5 M) := by
  have rt : am_ret mX5_init 425 435 10 33708 = True := eq_true ⟨rfl, rfl, rfl⟩
  have e2 : ∀ d (Q : am_Q) (M : am_M), am_big (d + 1) mX0_init [.ref 425] 426 M Q = Q none (i0 M 425) := fun d Q M => c_init0 (a := 425) (by omega) rfl rfl rfl rfl
  rw [eX5_init]
  simp (disch := (first | assumption | omega | rfl | decide)) only [sX5_init_0, sX5_init_1, sX5_init_4, sX5_init_5, sX5_init_8, sX5_init_9, sX5_init_12, sX5_init_15, sX5_init_16, sX5_init_17, sX5_init_20, sX5_init_21, sX5_init_23, sX5_init_25, sX5_init_28, sX5_init_29, sX5_init_31, sX5_init_33, sX5_init_36, sX5_init_37, sX5_init_40, sX5_init_42, sX5_init_45, sX5_init_46, sX5_init_49, sX5_init_51, sX5_init_54, sX5_init_55, sX5_init_58, sX5_init_60, sX5_init_63, sX5_init_64, sX5_init_67, sX5_init_69, sX5_init_72, kI_i, kL_l, kV_v, am_rv_s, am_kl_i, am_kl_r, am_kl_n, am_kl_l, true_and, and_true, and_self, true_or, or_true, implies_true, forall_const, not_true_eq_false, not_false_eq_true, false_implies, true_implies, if_true, if_false, Bool.true_eq_false, Bool.false_eq_true, Nat.reduceAdd, obs, ltN, tE, leT, rt, e2, mk12, mk4096, mk24576, mk864]
  rfl
set_option maxRecDepth 100000 in
theorem c_init7 : am_big (d + 1) mX7_init [.ref 435] 436 M Q = Q none (i7 M) := by
  have rt : am_ret mX7_init 436 440 4 40 = True := eq_true ⟨rfl, rfl, rfl⟩
  rw [eX7_init]
  simp (disch := (first | assumption | omega | rfl | decide)) only [sX7_init_0, sX7_init_1, sX7_init_4, sX7_init_5, sX7_init_7, sX7_init_9, sX7_init_12, sX7_init_13, sX7_init_15, sX7_init_17, sX7_init_20, sX7_init_21, sX7_init_23, sX7_init_25, sX7_init_28, sX7_init_29, sX7_init_31, sX7_init_33, sX7_init_36, sX7_init_37, sX7_init_38, sX7_init_41, kI_i, kL_l, kV_v, am_rv_s, am_kl_i, am_kl_r, am_kl_n, am_kl_l, true_and, and_true, and_self, true_or, or_true, implies_true, forall_const, not_true_eq_false, not_false_eq_true, false_implies, true_implies, if_true, if_false, Bool.true_eq_false, Bool.false_eq_true, Nat.reduceAdd, obs, ltN, tE, leT, rt, mk10]
  rfl
set_option maxRecDepth 100000 in
theorem c_init1 : am_big (d + 1) mX1_init [.ref 440] 441 M Q = Q none (sL M 440 0 0) := by
  rw [eX1_init]
  simp (disch := (first | assumption | omega | rfl | decide)) only [sX1_init_0, sX1_init_1, sX1_init_4, sX1_init_5, sX1_init_6, sX1_init_9, kI_i, kL_l, kV_v, am_rv_s, am_kl_i, am_kl_r, am_kl_n, am_kl_l, true_and, and_true, and_self, true_or, or_true, implies_true, forall_const, not_true_eq_false, not_false_eq_true, false_implies, true_implies, if_true, if_false, Bool.true_eq_false, Bool.false_eq_true, obs]
theorem gR_iP : ∀ k, gR (iP M k) 0 8 = some 411
  | 0 => rfl
  | k + 1 => by
    show gR (sR (i0 (iP M k) (441 + 4 * k)) 411 k (some (441 + 4 * k))) 0 8 = some 411
    unfold i0
    simp (disch := (first | assumption | omega | decide)) only [gR_sI, gR_o]
    exact gR_iP k
set_option maxRecDepth 100000 in
theorem c_init10 : am_big (d + 4) mX10_init [.ref 0] 1 M Q = Q none (iP M 4) := by
  have s3 : ∀ d (Q : am_Q) (M : am_M), am_big (d + 2) mX8_init [.ref 3] 4 M Q = Q none (i8 M 3) := fun d Q M => c_init8 (a := 3) (by omega) rfl rfl rfl rfl rfl rfl rfl rfl rfl
  have s12 : ∀ d (Q : am_Q) (M : am_M), am_big (d + 2) mX8_init [.ref 12] 13 M Q = Q none (i8 M 12) := fun d Q M => c_init8 (a := 12) (by omega) rfl rfl rfl rfl rfl rfl rfl rfl rfl
  have s21 : ∀ d (Q : am_Q) (M : am_M), am_big (d + 2) mX8_init [.ref 21] 22 M Q = Q none (i8 M 21) := fun d Q M => c_init8 (a := 21) (by omega) rfl rfl rfl rfl rfl rfl rfl rfl rfl
  have s412 : ∀ d (Q : am_Q) (M : am_M), am_big (d + 1) mX0_init [.ref 412] 413 M Q = Q none (i0 M 412) := fun d Q M => c_init0 (a := 412) (by omega) rfl rfl rfl rfl
  have s416 : ∀ d (Q : am_Q) (M : am_M), am_big (d + 1) mX0_init [.ref 416] 417 M Q = Q none (i0 M 416) := fun d Q M => c_init0 (a := 416) (by omega) rfl rfl rfl rfl
  have s420 : ∀ d (Q : am_Q) (M : am_M), am_big (d + 1) mX0_init [.ref 420] 421 M Q = Q none (i0 M 420) := fun d Q M => c_init0 (a := 420) (by omega) rfl rfl rfl rfl
  have l0 := loop0 (P := fun k => ok (d + 3) mX10_init 1 Q (441 + 4 * k) (440 + 4 * k) (45085 + 52 * k) 172 [some (.ref 0), some (.int (nI k))] [] (iP M k)) (n := 4) (fun k hk => by
    obtain ⟨⟨t0, t1, t2, t3⟩, _⟩ := pl_b k hk
    have := p10_step (d := d + 2) (Q := Q) (M := iP M k) (b := 441 + 4 * k) (c := 440 + 4 * k) (w := 45085 + 52 * k) (k := k) (by omega) (by omega) hk (by omega) (by omega) (gR_iP k) t0 t1 t2 t3
    rw [show 441 + 4 * k + 4 = 441 + 4 * (k + 1) by omega, show 440 + 4 * k + 4 = 440 + 4 * (k + 1) by omega, show 45085 + 52 * k + 52 = 45085 + 52 * (k + 1) by omega] at this
    exact this)
  have l1 : ok (d + 3) mX10_init 1 Q 441 440 45085 172 [some (.ref 0), some (.int 0)] [] (iC0 M) = _ := l0
  unfold iC0 at l1
  have rt : am_ret mX10_init 1 (441 + 4 * 4) (440 + 4 * 4) (45085 + 52 * 4) = True := eq_true ⟨rfl, rfl, rfl⟩
  have e4 : ((4 : Int32) ≤ nI 4) = True := eq_true (by decide)
  have o0 : ((0 : Int32) = 0 ∨ (0 : Int32) = 1) = True := by simp
  rw [eX10_init]
  simp (disch := (first | assumption | omega | rfl | decide)) only [sX10_init_0, sX10_init_1, sX10_init_4, sX10_init_5, sX10_init_8, sX10_init_9, sX10_init_12, sX10_init_15, sX10_init_16, sX10_init_19, sX10_init_20, sX10_init_23, sX10_init_26, sX10_init_27, sX10_init_30, sX10_init_31, sX10_init_34, sX10_init_37, sX10_init_38, sX10_init_41, sX10_init_42, sX10_init_45, sX10_init_48, sX10_init_49, sX10_init_50, sX10_init_53, sX10_init_54, sX10_init_57, sX10_init_58, sX10_init_61, sX10_init_64, sX10_init_65, sX10_init_68, sX10_init_69, sX10_init_72, sX10_init_75, sX10_init_76, sX10_init_79, sX10_init_80, sX10_init_83, sX10_init_86, sX10_init_87, sX10_init_88, sX10_init_91, sX10_init_94, sX10_init_95, sX10_init_96, sX10_init_99, sX10_init_100, sX10_init_103, sX10_init_104, sX10_init_107, sX10_init_110, sX10_init_111, sX10_init_114, sX10_init_115, sX10_init_118, sX10_init_121, sX10_init_122, sX10_init_125, sX10_init_126, sX10_init_129, sX10_init_132, sX10_init_133, sX10_init_136, sX10_init_137, sX10_init_140, sX10_init_143, sX10_init_144, sX10_init_147, sX10_init_148, sX10_init_151, sX10_init_154, sX10_init_155, sX10_init_158, sX10_init_159, sX10_init_162, sX10_init_165, sX10_init_166, sX10_init_167, sX10_init_170, sX10_init_171, sX10_init_173, sX10_init_174, sX10_init_177, sX10_init_178, sX10_init_181, sX10_init_182, sX10_init_185, sX10_init_186, sX10_init_189, sX10_init_190, sX10_init_193, sX10_init_196, kI_i, kL_l, kV_v, am_rv_s, am_kl_i, am_kl_r, am_kl_n, am_kl_l, true_and, and_true, and_self, true_or, or_true, implies_true, forall_const, not_true_eq_false, not_false_eq_true, false_implies, true_implies, if_true, if_false, Bool.true_eq_false, Bool.false_eq_true, Nat.reduceAdd, obs, ltN, tE, leT, c_init9, s3, s12, s21, c_init6, c_init3, c_init4, mk4, s412, s416, s420, c_init5, c_init7, c_init1, o0, l1]
  rw [sX10_init_172]
  simp (disch := (first | assumption | omega | rfl | decide)) only [sX10_init_0, sX10_init_1, sX10_init_4, sX10_init_5, sX10_init_8, sX10_init_9, sX10_init_12, sX10_init_15, sX10_init_16, sX10_init_19, sX10_init_20, sX10_init_23, sX10_init_26, sX10_init_27, sX10_init_30, sX10_init_31, sX10_init_34, sX10_init_37, sX10_init_38, sX10_init_41, sX10_init_42, sX10_init_45, sX10_init_48, sX10_init_49, sX10_init_50, sX10_init_53, sX10_init_54, sX10_init_57, sX10_init_58, sX10_init_61, sX10_init_64, sX10_init_65, sX10_init_68, sX10_init_69, sX10_init_72, sX10_init_75, sX10_init_76, sX10_init_79, sX10_init_80, sX10_init_83, sX10_init_86, sX10_init_87, sX10_init_88, sX10_init_91, sX10_init_94, sX10_init_95, sX10_init_96, sX10_init_99, sX10_init_100, sX10_init_103, sX10_init_104, sX10_init_107, sX10_init_110, sX10_init_111, sX10_init_114, sX10_init_115, sX10_init_118, sX10_init_121, sX10_init_122, sX10_init_125, sX10_init_126, sX10_init_129, sX10_init_132, sX10_init_133, sX10_init_136, sX10_init_137, sX10_init_140, sX10_init_143, sX10_init_144, sX10_init_147, sX10_init_148, sX10_init_151, sX10_init_154, sX10_init_155, sX10_init_158, sX10_init_159, sX10_init_162, sX10_init_165, sX10_init_166, sX10_init_167, sX10_init_170, sX10_init_171, sX10_init_173, sX10_init_174, sX10_init_177, sX10_init_178, sX10_init_181, sX10_init_182, sX10_init_185, sX10_init_186, sX10_init_189, sX10_init_190, sX10_init_193, sX10_init_196, kI_i, kL_l, kV_v, am_rv_s, am_kl_i, am_kl_r, am_kl_n, am_kl_l, true_and, and_true, and_self, true_or, or_true, implies_true, forall_const, not_true_eq_false, not_false_eq_true, false_implies, true_implies, if_true, if_false, Bool.true_eq_false, Bool.false_eq_true, e4, rt]
set_option maxRecDepth 100000 in
theorem c_init11 : am_big (d + 1) mX11_init [.ref 457] 458 M Q = Q none (iM M) := by
  have rt : am_ret mX11_init 458 487 29 57961 = True := eq_true ⟨rfl, rfl, rfl⟩
  rw [eX11_init]
  simp (disch := (first | assumption | omega | rfl | decide)) only [sX11_init_0, sX11_init_1, sX11_init_4, sX11_init_5, sX11_init_8, sX11_init_10, sX11_init_13, sX11_init_14, sX11_init_17, sX11_init_19, sX11_init_22, sX11_init_23, sX11_init_24, sX11_init_26, sX11_init_29, sX11_init_30, sX11_init_33, sX11_init_35, sX11_init_38, sX11_init_39, sX11_init_40, sX11_init_43, sX11_init_46, sX11_init_47, sX11_init_49, sX11_init_52, sX11_init_53, sX11_init_55, sX11_init_58, sX11_init_59, sX11_init_61, sX11_init_63, sX11_init_66, sX11_init_67, sX11_init_70, sX11_init_72, sX11_init_75, sX11_init_76, sX11_init_77, sX11_init_79, sX11_init_82, sX11_init_83, sX11_init_86, sX11_init_88, sX11_init_91, sX11_init_92, sX11_init_95, sX11_init_97, sX11_init_100, sX11_init_101, sX11_init_102, sX11_init_105, sX11_init_106, sX11_init_107, sX11_init_110, sX11_init_111, sX11_init_113, sX11_init_115, sX11_init_118, sX11_init_119, sX11_init_121, sX11_init_123, sX11_init_126, sX11_init_127, sX11_init_129, sX11_init_131, sX11_init_134, sX11_init_135, sX11_init_137, sX11_init_139, sX11_init_142, sX11_init_143, sX11_init_145, sX11_init_147, sX11_init_150, sX11_init_151, sX11_init_153, sX11_init_155, sX11_init_158, sX11_init_159, sX11_init_161, sX11_init_163, sX11_init_166, sX11_init_167, sX11_init_169, sX11_init_171, sX11_init_174, sX11_init_175, sX11_init_177, sX11_init_179, sX11_init_182, sX11_init_183, sX11_init_186, sX11_init_188, sX11_init_191, sX11_init_192, sX11_init_194, sX11_init_196, sX11_init_199, sX11_init_200, sX11_init_202, sX11_init_204, sX11_init_207, sX11_init_208, sX11_init_211, sX11_init_213, sX11_init_216, sX11_init_217, sX11_init_220, sX11_init_222, sX11_init_225, sX11_init_226, sX11_init_229, sX11_init_231, sX11_init_234, sX11_init_235, sX11_init_238, sX11_init_240, sX11_init_243, sX11_init_244, sX11_init_246, sX11_init_248, sX11_init_251, sX11_init_252, sX11_init_255, sX11_init_257, sX11_init_260, sX11_init_261, sX11_init_263, sX11_init_265, sX11_init_268, sX11_init_269, sX11_init_272, sX11_init_274, sX11_init_277, kI_i, kL_l, kV_v, am_rv_s, am_kl_i, am_kl_r, am_kl_n, am_kl_l, true_and, and_true, and_self, true_or, or_true, implies_true, forall_const, not_true_eq_false, not_false_eq_true, false_implies, true_implies, if_true, if_false, Bool.true_eq_false, Bool.false_eq_true, Nat.reduceAdd, obs, ltN, tE, leT, rt, mk240, mk960, mk4, mk128, mk8, mk5, mk164, mk6, mk12, mk6560, mk30, mk8191, mk4096, mk24576, gR_e, gR_j]
  rfl
set_option maxRecDepth 100000 in
theorem L_start {kk : Nat} : ok 40 (mLk kk) 0 Q 0 0 0 0 [some (.ref 2000000), none, none, none, none, none, none] [] M = ok 40 (mLk kk) 0 Q 488 488 103327 23 [some (.ref 2000000), some (.ref 0), some (.ref 457), some (.ref 487), some (.int 0), none, none] [] (iA M) := by
  have e10 := fun (Q : am_Q) => c_init10 (d := 36) (M := M) (Q := Q)
  have e11 := fun (Q : am_Q) => c_init11 (d := 39) (M := iP M 4) (Q := Q)
  simp (disch := (first | assumption | omega | rfl | decide)) only [sK_0, sK_3, sK_4, sK_7, sK_8, sK_11, sK_12, sK_15, sK_16, sK_17, sK_19, sK_20, sK_21, kI_i, kL_l, kV_v, am_rv_s, am_kl_i, am_kl_r, am_kl_n, am_kl_l, true_and, and_true, and_self, true_or, or_true, implies_true, forall_const, not_true_eq_false, not_false_eq_true, false_implies, true_implies, if_true, if_false, Bool.true_eq_false, Bool.false_eq_true, Nat.reduceAdd, obs, ltN, tE, leT, e10, e11, mk1L]
  rfl
end
