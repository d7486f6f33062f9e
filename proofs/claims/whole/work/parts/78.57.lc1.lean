theorem nI_q4 (k : Nat) : nI k + 4 = nI (k + 4) := nI_add k 4
theorem nI_q5 (k : Nat) : nI k + 5 = nI (k + 5) := nI_add k 5
theorem nI_q6 (k : Nat) : nI k + 6 = nI (k + 6) := nI_add k 6
theorem rdi {M : am_M} {sc : Nat → Int32} {len k : Nat} (hs : ∀ j, gI M 2000000 j = sc j) (h1000 : sc 1000 = nI len) (hl : len ≤ 384) (hk : k < len) : am_in 488 M 2000000 1 (nI k) = True := eq_true (Or.inr ⟨rfl, rfl, by
  have e : (gI M am_SC 1000).toNatClampNeg = len := by
    show (gI M 2000000 1000).toNatClampNeg = len
    rw [hs, h1000, nI_clamp (by omega)]
  rw [e]
  exact vp_in_nI hk (by omega)⟩)
theorem rdv {M : am_M} {sc : Nat → Int32} {k : Nat} (hs : ∀ j, gI M 2000000 j = sc j) (hk : k < 400) : gI M 2000000 (nI k).toNatClampNeg = sc k := by rw [nI_clamp (by omega), hs]
set_option maxRecDepth 100000 in
theorem w487 : am_iw 488 487 4 0 = True := iw (k := 0) (L := 1) (by omega) rfl (by omega) (by omega)
def lg2 (a b : Int32) : Int64 := (a.toInt64 <<< ((32 : Int32).toInt64 &&& 63)) ||| (b.toInt64 &&& 4294967295)
theorem lg2_e (a b : Int32) : (a.toInt64 <<< ((32 : Int32).toInt64 &&& 63)) ||| (b.toInt64 &&& 4294967295) = lg2 a b := rfl
section
variable {M : am_M} {sc : Nat → Int32} {kk c w i len : Nat} {l5 l6 : Option Value} {Q : am_Q}
theorem L_apprentice (hI : IV sc M) (h1000 : sc 1000 = nI len) (hl : len ≤ 384) (hj : i + 6 ≤ len) (hc : c + 8 ≤ 488 + 8 * kk) (hw : w + 64 ≤ 103327 + 64 * kk) (H : ∀ M' l5 l6, IV sc M' → ok 40 (mLk kk) 0 Q 488 (c + 8) (w + 64) 1695 [some (.ref 2000000), some (.ref 0), some (.ref 457), some (.ref 487), some (.int (nI i)), l5, l6] [] M') : ok 40 (mLk kk) 0 Q 488 c w 380 [some (.ref 2000000), some (.ref 0), some (.ref 457), some (.ref 487), some (.int (nI i)), l5, l6] [] M := by
  have hs := hI.2.1
  obtain ⟨k, v, M1, M2, e1, e2, hs1, g0, k01, gl, hI2⟩ := B_app (p0 := sc (i + 1)) (p1 := sc (i + 2)) hI
  have i1 := rdi hs h1000 hl (show i + 1 < len by omega)
  have j1 := rdi hs1 h1000 hl (show i + 1 < len by omega)
  have v1 := rdv hs (show i + 1 < 400 by omega)
  have u1 := rdv hs1 (show i + 1 < 400 by omega)
  have i2 := rdi hs h1000 hl (show i + 2 < len by omega)
  have j2 := rdi hs1 h1000 hl (show i + 2 < len by omega)
  have v2 := rdv hs (show i + 2 < 400 by omega)
  have u2 := rdv hs1 (show i + 2 < 400 by omega)
  have W2 := hI2.1
  have H1 := H M2 (some (.int k)) (some (.int v)) hI2
  have ct : ∀ (M' : am_M), am_cont mL_apprentice (ok 40 (mLk kk) 0 Q) 488 c w 397 [some (.ref 2000000), some (.ref 0), some (.ref 457), some (.ref 487), some (.int (nI i)), l5, l6] [] (some (.int k)) M' = ok 40 (mLk kk) 0 Q 488 (c + 8) (w + 64) 397 [some (.ref 2000000), some (.ref 0), some (.ref 457), some (.ref 487), some (.int (nI i)), l5, l6] [.int k] M' := fun M' => rfl
  have th : ∀ Q, am_big 40 mX11_thrown [.ref 457] 488 M2 Q = Q (some (.int k)) M2 := fun (Q : am_Q) => by
    rw [eX11_thrown (d := 39)]
    simp (disch := (first | assumption | omega | decide)) only [sX11_thrown_0, sX11_thrown_1, sX11_thrown_4, kI_i, kL_l, kV_v, am_rv_s, am_kl_i, am_kl_r, am_kl_n, am_kl_l, true_and, and_true, and_self, true_or, or_true, implies_true, forall_const, not_true_eq_false, not_false_eq_true, false_implies, true_implies, if_true, if_false, Bool.true_eq_false, Bool.false_eq_true, ob_457, g0]
  have w0 := w487
  have c0 : (0 : Int32).toNatClampNeg = 0 := rfl
  rcases k01 with rfl | rfl
  · have gl0 := gl rfl
    have lc : lg_cmp v.toInt64 v.toInt64 = 0 := by unfold lg_cmp; simp
    simp (disch := (first | assumption | omega | decide)) only [sK_380, sK_381, sK_382, sK_384, sK_385, sK_386, sK_387, sK_388, sK_390, sK_391, sK_392, sK_393, sK_394, sK_397, sK_399, sK_400, sK_401, sK_403, sK_404, sK_405, sK_406, sK_407, sK_409, sK_410, sK_411, sK_412, sK_415, sK_417, sK_418, sK_421, sK_423, sK_428, sK_430, sK_433, sK_434, sK_435, sK_436, sK_438, sK_439, sK_440, sK_445, kI_i, kL_l, kV_v, am_rv_s, am_kl_i, am_kl_r, am_kl_n, am_kl_l, true_and, and_true, and_self, true_or, or_true, implies_true, forall_const, not_true_eq_false, not_false_eq_true, false_implies, true_implies, if_true, if_false, Bool.true_eq_false, Bool.false_eq_true, ob_0, ob_457, nI_1, nI_2, nI_3, nI_q4, nI_q5, eq_self, i1, j1, v1, u1, i2, j2, v2, u2, e1, ct, e2, th, w0, c0, gl0, lc]
    exact H1
  · have n10 : ((1 : Int32) = 0) = False := by simp
    simp (disch := (first | assumption | omega | decide)) only [sK_380, sK_381, sK_382, sK_384, sK_385, sK_386, sK_387, sK_388, sK_390, sK_391, sK_392, sK_393, sK_394, sK_397, sK_399, sK_400, sK_401, sK_403, sK_404, sK_405, sK_406, sK_407, sK_409, sK_410, sK_411, sK_412, sK_415, sK_417, sK_418, sK_421, sK_423, sK_428, sK_430, sK_433, sK_434, sK_435, sK_436, sK_438, sK_439, sK_440, sK_445, kI_i, kL_l, kV_v, am_rv_s, am_kl_i, am_kl_r, am_kl_n, am_kl_l, true_and, and_true, and_self, true_or, or_true, implies_true, forall_const, not_true_eq_false, not_false_eq_true, false_implies, true_implies, if_true, if_false, Bool.true_eq_false, Bool.false_eq_true, ob_0, ob_457, nI_1, nI_2, nI_3, nI_q4, nI_q5, eq_self, i1, j1, v1, u1, i2, j2, v2, u2, e1, ct, e2, th, n10]
    exact H1
theorem L_feed (hI : IV sc M) (h1000 : sc 1000 = nI len) (hl : len ≤ 384) (hj : i + 6 ≤ len) (hc : c ≤ 488 + 8 * kk) (hw : w ≤ 103327 + 64 * kk) (H : ∀ M', IV sc M' → ok 40 (mLk kk) 0 Q 488 c w 1695 [some (.ref 2000000), some (.ref 0), some (.ref 457), some (.ref 487), some (.int (nI i)), l5, l6] [] M') : ok 40 (mLk kk) 0 Q 488 c w 232 [some (.ref 2000000), some (.ref 0), some (.ref 457), some (.ref 487), some (.int (nI i)), l5, l6] [] M := by
  have hs := hI.2.1
  obtain ⟨r, M1, M2, e1, e2, hs1, hI2⟩ := B_feed (a := sc (i + 1)) (b := sc (i + 2)) (c := sc (i + 3)) (e := sc (i + 4)) (f := sc (i + 5)) hI
  have i1 := rdi hs h1000 hl (show i + 1 < len by omega)
  have j1 := rdi hs1 h1000 hl (show i + 1 < len by omega)
  have v1 := rdv hs (show i + 1 < 400 by omega)
  have u1 := rdv hs1 (show i + 1 < 400 by omega)
  have i2 := rdi hs h1000 hl (show i + 2 < len by omega)
  have j2 := rdi hs1 h1000 hl (show i + 2 < len by omega)
  have v2 := rdv hs (show i + 2 < 400 by omega)
  have u2 := rdv hs1 (show i + 2 < 400 by omega)
  have i3 := rdi hs h1000 hl (show i + 3 < len by omega)
  have j3 := rdi hs1 h1000 hl (show i + 3 < len by omega)
  have v3 := rdv hs (show i + 3 < 400 by omega)
  have u3 := rdv hs1 (show i + 3 < 400 by omega)
  have i4 := rdi hs h1000 hl (show i + 4 < len by omega)
  have j4 := rdi hs1 h1000 hl (show i + 4 < len by omega)
  have v4 := rdv hs (show i + 4 < 400 by omega)
  have u4 := rdv hs1 (show i + 4 < 400 by omega)
  have i5 := rdi hs h1000 hl (show i + 5 < len by omega)
  have j5 := rdi hs1 h1000 hl (show i + 5 < len by omega)
  have v5 := rdv hs (show i + 5 < 400 by omega)
  have u5 := rdv hs1 (show i + 5 < 400 by omega)
  have H1 := H M2 hI2
  simp (disch := (first | assumption | omega | decide)) only [sK_232, sK_233, sK_234, sK_236, sK_237, sK_238, sK_239, sK_240, sK_242, sK_243, sK_244, sK_245, sK_246, sK_248, sK_249, sK_250, sK_251, sK_252, sK_254, sK_255, sK_256, sK_257, sK_258, sK_260, sK_261, sK_262, sK_263, sK_266, sK_267, sK_268, sK_270, sK_271, sK_272, sK_273, sK_274, sK_276, sK_277, sK_278, sK_279, sK_280, sK_282, sK_283, sK_284, sK_285, sK_286, sK_288, sK_289, sK_290, sK_291, sK_292, sK_294, sK_295, sK_296, sK_297, sK_300, kI_i, kL_l, kV_v, am_rv_s, am_kl_i, am_kl_r, am_kl_n, am_kl_l, true_and, and_true, and_self, true_or, or_true, implies_true, forall_const, not_true_eq_false, not_false_eq_true, false_implies, true_implies, if_true, if_false, Bool.true_eq_false, Bool.false_eq_true, ob_0, ob_457, nI_1, nI_2, nI_3, nI_q4, nI_q5, eq_self, i1, j1, v1, u1, i2, j2, v2, u2, i3, j3, v3, u3, i4, j4, v4, u4, i5, j5, v5, u5, e1, e2]
  exact H1
theorem L_end (hI : IV sc M) (h1000 : sc 1000 = nI len) (hl : len ≤ 384) (hj : i + 6 ≤ len) (hc : c ≤ 488 + 8 * kk) (hw : w ≤ 103327 + 64 * kk) (H : ∀ M', IV sc M' → ok 40 (mLk kk) 0 Q 488 c w 1695 [some (.ref 2000000), some (.ref 0), some (.ref 457), some (.ref 487), some (.int (nI i)), l5, l6] [] M') : ok 40 (mLk kk) 0 Q 488 c w 305 [some (.ref 2000000), some (.ref 0), some (.ref 457), some (.ref 487), some (.int (nI i)), l5, l6] [] M := by
  have hs := hI.2.1
  obtain ⟨r, M1, M2, e1, e2, hs1, hI2⟩ := B_end (n := sc (i + 1)) hI
  have i1 := rdi hs h1000 hl (show i + 1 < len by omega)
  have j1 := rdi hs1 h1000 hl (show i + 1 < len by omega)
  have v1 := rdv hs (show i + 1 < 400 by omega)
  have u1 := rdv hs1 (show i + 1 < 400 by omega)
  have H1 := H M2 hI2
  simp (disch := (first | assumption | omega | decide)) only [sK_305, sK_306, sK_307, sK_309, sK_310, sK_311, sK_312, sK_315, sK_316, sK_317, sK_319, sK_320, sK_321, sK_322, sK_325, kI_i, kL_l, kV_v, am_rv_s, am_kl_i, am_kl_r, am_kl_n, am_kl_l, true_and, and_true, and_self, true_or, or_true, implies_true, forall_const, not_true_eq_false, not_false_eq_true, false_implies, true_implies, if_true, if_false, Bool.true_eq_false, Bool.false_eq_true, ob_0, ob_457, nI_1, nI_2, nI_3, nI_q4, nI_q5, eq_self, i1, j1, v1, u1, e1, e2]
  exact H1
theorem L_fault (hI : IV sc M) (h1000 : sc 1000 = nI len) (hl : len ≤ 384) (hj : i + 6 ≤ len) (hc : c ≤ 488 + 8 * kk) (hw : w ≤ 103327 + 64 * kk) (H : ∀ M', IV sc M' → ok 40 (mLk kk) 0 Q 488 c w 1695 [some (.ref 2000000), some (.ref 0), some (.ref 457), some (.ref 487), some (.int (nI i)), l5, l6] [] M') : ok 40 (mLk kk) 0 Q 488 c w 330 [some (.ref 2000000), some (.ref 0), some (.ref 457), some (.ref 487), some (.int (nI i)), l5, l6] [] M := by
  have hs := hI.2.1
  obtain ⟨r, M1, M2, e1, e2, hs1, hI2⟩ := B_fault (so := sc (i + 1)) hI
  have i1 := rdi hs h1000 hl (show i + 1 < len by omega)
  have j1 := rdi hs1 h1000 hl (show i + 1 < len by omega)
  have v1 := rdv hs (show i + 1 < 400 by omega)
  have u1 := rdv hs1 (show i + 1 < 400 by omega)
  have H1 := H M2 hI2
  simp (disch := (first | assumption | omega | decide)) only [sK_330, sK_331, sK_332, sK_334, sK_335, sK_336, sK_337, sK_340, sK_341, sK_342, sK_344, sK_345, sK_346, sK_347, sK_350, kI_i, kL_l, kV_v, am_rv_s, am_kl_i, am_kl_r, am_kl_n, am_kl_l, true_and, and_true, and_self, true_or, or_true, implies_true, forall_const, not_true_eq_false, not_false_eq_true, false_implies, true_implies, if_true, if_false, Bool.true_eq_false, Bool.false_eq_true, ob_0, ob_457, nI_1, nI_2, nI_3, nI_q4, nI_q5, eq_self, i1, j1, v1, u1, e1, e2]
  exact H1
theorem L_text (hI : IV sc M) (h1000 : sc 1000 = nI len) (hl : len ≤ 384) (hj : i + 6 ≤ len) (hc : c ≤ 488 + 8 * kk) (hw : w ≤ 103327 + 64 * kk) (H : ∀ M', IV sc M' → ok 40 (mLk kk) 0 Q 488 c w 1695 [some (.ref 2000000), some (.ref 0), some (.ref 457), some (.ref 487), some (.int (nI i)), l5, l6] [] M') : ok 40 (mLk kk) 0 Q 488 c w 355 [some (.ref 2000000), some (.ref 0), some (.ref 457), some (.ref 487), some (.int (nI i)), l5, l6] [] M := by
  have hs := hI.2.1
  obtain ⟨r, M1, M2, e1, e2, hs1, hI2⟩ := B_text (so := sc (i + 1)) hI
  have i1 := rdi hs h1000 hl (show i + 1 < len by omega)
  have j1 := rdi hs1 h1000 hl (show i + 1 < len by omega)
  have v1 := rdv hs (show i + 1 < 400 by omega)
  have u1 := rdv hs1 (show i + 1 < 400 by omega)
  have H1 := H M2 hI2
  simp (disch := (first | assumption | omega | decide)) only [sK_355, sK_356, sK_357, sK_359, sK_360, sK_361, sK_362, sK_365, sK_366, sK_367, sK_369, sK_370, sK_371, sK_372, sK_375, kI_i, kL_l, kV_v, am_rv_s, am_kl_i, am_kl_r, am_kl_n, am_kl_l, true_and, and_true, and_self, true_or, or_true, implies_true, forall_const, not_true_eq_false, not_false_eq_true, false_implies, true_implies, if_true, if_false, Bool.true_eq_false, Bool.false_eq_true, ob_0, ob_457, nI_1, nI_2, nI_3, nI_q4, nI_q5, eq_self, i1, j1, v1, u1, e1, e2]
  exact H1
theorem L_shape (hI : IV sc M) (h1000 : sc 1000 = nI len) (hl : len ≤ 384) (hj : i + 6 ≤ len) (hc : c ≤ 488 + 8 * kk) (hw : w ≤ 103327 + 64 * kk) (H : ∀ M', IV sc M' → ok 40 (mLk kk) 0 Q 488 c w 1695 [some (.ref 2000000), some (.ref 0), some (.ref 457), some (.ref 487), some (.int (nI i)), l5, l6] [] M') : ok 40 (mLk kk) 0 Q 488 c w 448 [some (.ref 2000000), some (.ref 0), some (.ref 457), some (.ref 487), some (.int (nI i)), l5, l6] [] M := by
  have hs := hI.2.1
  obtain ⟨r, M1, M2, e1, e2, hs1, hI2⟩ := B_shape (y := sc (i + 1)) (v := sc (i + 2)) hI
  have i1 := rdi hs h1000 hl (show i + 1 < len by omega)
  have j1 := rdi hs1 h1000 hl (show i + 1 < len by omega)
  have v1 := rdv hs (show i + 1 < 400 by omega)
  have u1 := rdv hs1 (show i + 1 < 400 by omega)
  have i2 := rdi hs h1000 hl (show i + 2 < len by omega)
  have j2 := rdi hs1 h1000 hl (show i + 2 < len by omega)
  have v2 := rdv hs (show i + 2 < 400 by omega)
  have u2 := rdv hs1 (show i + 2 < 400 by omega)
  have H1 := H M2 hI2
  simp (disch := (first | assumption | omega | decide)) only [sK_448, sK_449, sK_450, sK_452, sK_453, sK_454, sK_455, sK_456, sK_458, sK_459, sK_460, sK_461, sK_464, sK_465, sK_466, sK_468, sK_469, sK_470, sK_471, sK_472, sK_474, sK_475, sK_476, sK_477, sK_480, kI_i, kL_l, kV_v, am_rv_s, am_kl_i, am_kl_r, am_kl_n, am_kl_l, true_and, and_true, and_self, true_or, or_true, implies_true, forall_const, not_true_eq_false, not_false_eq_true, false_implies, true_implies, if_true, if_false, Bool.true_eq_false, Bool.false_eq_true, ob_0, ob_457, nI_1, nI_2, nI_3, nI_q4, nI_q5, eq_self, i1, j1, v1, u1, i2, j2, v2, u2, e1, e2]
  exact H1
theorem L_deed (hI : IV sc M) (h1000 : sc 1000 = nI len) (hl : len ≤ 384) (hj : i + 6 ≤ len) (hc : c ≤ 488 + 8 * kk) (hw : w ≤ 103327 + 64 * kk) (H : ∀ M', IV sc M' → ok 40 (mLk kk) 0 Q 488 c w 1695 [some (.ref 2000000), some (.ref 0), some (.ref 457), some (.ref 487), some (.int (nI i)), l5, l6] [] M') : ok 40 (mLk kk) 0 Q 488 c w 485 [some (.ref 2000000), some (.ref 0), some (.ref 457), some (.ref 487), some (.int (nI i)), l5, l6] [] M := by
  have hs := hI.2.1
  obtain ⟨r, M1, M2, e1, e2, hs1, hI2⟩ := B_deed (y := sc (i + 1)) (w := sc (i + 2)) hI
  have i1 := rdi hs h1000 hl (show i + 1 < len by omega)
  have j1 := rdi hs1 h1000 hl (show i + 1 < len by omega)
  have v1 := rdv hs (show i + 1 < 400 by omega)
  have u1 := rdv hs1 (show i + 1 < 400 by omega)
  have i2 := rdi hs h1000 hl (show i + 2 < len by omega)
  have j2 := rdi hs1 h1000 hl (show i + 2 < len by omega)
  have v2 := rdv hs (show i + 2 < 400 by omega)
  have u2 := rdv hs1 (show i + 2 < 400 by omega)
  have H1 := H M2 hI2
  simp (disch := (first | assumption | omega | decide)) only [sK_485, sK_486, sK_487, sK_489, sK_490, sK_491, sK_492, sK_493, sK_495, sK_496, sK_497, sK_498, sK_501, sK_502, sK_503, sK_505, sK_506, sK_507, sK_508, sK_509, sK_511, sK_512, sK_513, sK_514, sK_517, kI_i, kL_l, kV_v, am_rv_s, am_kl_i, am_kl_r, am_kl_n, am_kl_l, true_and, and_true, and_self, true_or, or_true, implies_true, forall_const, not_true_eq_false, not_false_eq_true, false_implies, true_implies, if_true, if_false, Bool.true_eq_false, Bool.false_eq_true, ob_0, ob_457, nI_1, nI_2, nI_3, nI_q4, nI_q5, eq_self, i1, j1, v1, u1, i2, j2, v2, u2, e1, e2]
  exact H1
theorem L_law (hI : IV sc M) (h1000 : sc 1000 = nI len) (hl : len ≤ 384) (hj : i + 6 ≤ len) (hc : c ≤ 488 + 8 * kk) (hw : w ≤ 103327 + 64 * kk) (H : ∀ M', IV sc M' → ok 40 (mLk kk) 0 Q 488 c w 1695 [some (.ref 2000000), some (.ref 0), some (.ref 457), some (.ref 487), some (.int (nI i)), l5, l6] [] M') : ok 40 (mLk kk) 0 Q 488 c w 522 [some (.ref 2000000), some (.ref 0), some (.ref 457), some (.ref 487), some (.int (nI i)), l5, l6] [] M := by
  have hs := hI.2.1
  obtain ⟨r, M1, M2, e1, e2, hs1, hI2⟩ := B_law (v := sc (i + 1)) hI
  have i1 := rdi hs h1000 hl (show i + 1 < len by omega)
  have j1 := rdi hs1 h1000 hl (show i + 1 < len by omega)
  have v1 := rdv hs (show i + 1 < 400 by omega)
  have u1 := rdv hs1 (show i + 1 < 400 by omega)
  have H1 := H M2 hI2
  simp (disch := (first | assumption | omega | decide)) only [sK_522, sK_523, sK_524, sK_526, sK_527, sK_528, sK_529, sK_532, sK_533, sK_534, sK_536, sK_537, sK_538, sK_539, sK_542, kI_i, kL_l, kV_v, am_rv_s, am_kl_i, am_kl_r, am_kl_n, am_kl_l, true_and, and_true, and_self, true_or, or_true, implies_true, forall_const, not_true_eq_false, not_false_eq_true, false_implies, true_implies, if_true, if_false, Bool.true_eq_false, Bool.false_eq_true, ob_0, ob_457, nI_1, nI_2, nI_3, nI_q4, nI_q5, eq_self, i1, j1, v1, u1, e1, e2]
  exact H1
theorem L_haste (hI : IV sc M) (h1000 : sc 1000 = nI len) (hl : len ≤ 384) (hj : i + 6 ≤ len) (hc : c ≤ 488 + 8 * kk) (hw : w ≤ 103327 + 64 * kk) (H : ∀ M', IV sc M' → ok 40 (mLk kk) 0 Q 488 c w 1695 [some (.ref 2000000), some (.ref 0), some (.ref 457), some (.ref 487), some (.int (nI i)), l5, l6] [] M') : ok 40 (mLk kk) 0 Q 488 c w 547 [some (.ref 2000000), some (.ref 0), some (.ref 457), some (.ref 487), some (.int (nI i)), l5, l6] [] M := by
  have hs := hI.2.1
  obtain ⟨r, M1, M2, e1, e2, hs1, hI2⟩ := B_haste (v := sc (i + 1)) hI
  have i1 := rdi hs h1000 hl (show i + 1 < len by omega)
  have j1 := rdi hs1 h1000 hl (show i + 1 < len by omega)
  have v1 := rdv hs (show i + 1 < 400 by omega)
  have u1 := rdv hs1 (show i + 1 < 400 by omega)
  have H1 := H M2 hI2
  simp (disch := (first | assumption | omega | decide)) only [sK_547, sK_548, sK_549, sK_551, sK_552, sK_553, sK_554, sK_557, sK_558, sK_559, sK_561, sK_562, sK_563, sK_564, sK_567, kI_i, kL_l, kV_v, am_rv_s, am_kl_i, am_kl_r, am_kl_n, am_kl_l, true_and, and_true, and_self, true_or, or_true, implies_true, forall_const, not_true_eq_false, not_false_eq_true, false_implies, true_implies, if_true, if_false, Bool.true_eq_false, Bool.false_eq_true, ob_0, ob_457, nI_1, nI_2, nI_3, nI_q4, nI_q5, eq_self, i1, j1, v1, u1, e1, e2]
  exact H1
theorem L_make (hI : IV sc M) (h1000 : sc 1000 = nI len) (hl : len ≤ 384) (hj : i + 6 ≤ len) (hc : c ≤ 488 + 8 * kk) (hw : w ≤ 103327 + 64 * kk) (H : ∀ M', IV sc M' → ok 40 (mLk kk) 0 Q 488 c w 1695 [some (.ref 2000000), some (.ref 0), some (.ref 457), some (.ref 487), some (.int (nI i)), l5, l6] [] M') : ok 40 (mLk kk) 0 Q 488 c w 572 [some (.ref 2000000), some (.ref 0), some (.ref 457), some (.ref 487), some (.int (nI i)), l5, l6] [] M := by
  have hs := hI.2.1
  obtain ⟨r, M1, M2, e1, e2, hs1, hI2⟩ := B_make (so := sc (i + 1)) (pa := sc (i + 2)) (x := sc (i + 3)) hI
  have i1 := rdi hs h1000 hl (show i + 1 < len by omega)
  have j1 := rdi hs1 h1000 hl (show i + 1 < len by omega)
  have v1 := rdv hs (show i + 1 < 400 by omega)
  have u1 := rdv hs1 (show i + 1 < 400 by omega)
  have i2 := rdi hs h1000 hl (show i + 2 < len by omega)
  have j2 := rdi hs1 h1000 hl (show i + 2 < len by omega)
  have v2 := rdv hs (show i + 2 < 400 by omega)
  have u2 := rdv hs1 (show i + 2 < 400 by omega)
  have i3 := rdi hs h1000 hl (show i + 3 < len by omega)
  have j3 := rdi hs1 h1000 hl (show i + 3 < len by omega)
  have v3 := rdv hs (show i + 3 < 400 by omega)
  have u3 := rdv hs1 (show i + 3 < 400 by omega)
  have H1 := H M2 hI2
  simp (disch := (first | assumption | omega | decide)) only [sK_572, sK_573, sK_574, sK_576, sK_577, sK_578, sK_579, sK_580, sK_582, sK_583, sK_584, sK_585, sK_586, sK_588, sK_589, sK_590, sK_591, sK_594, sK_595, sK_596, sK_598, sK_599, sK_600, sK_601, sK_602, sK_604, sK_605, sK_606, sK_607, sK_608, sK_610, sK_611, sK_612, sK_613, sK_616, kI_i, kL_l, kV_v, am_rv_s, am_kl_i, am_kl_r, am_kl_n, am_kl_l, true_and, and_true, and_self, true_or, or_true, implies_true, forall_const, not_true_eq_false, not_false_eq_true, false_implies, true_implies, if_true, if_false, Bool.true_eq_false, Bool.false_eq_true, ob_0, ob_457, nI_1, nI_2, nI_3, nI_q4, nI_q5, eq_self, i1, j1, v1, u1, i2, j2, v2, u2, i3, j3, v3, u3, e1, e2]
  exact H1
theorem L_undoes (hI : IV sc M) (h1000 : sc 1000 = nI len) (hl : len ≤ 384) (hj : i + 6 ≤ len) (hc : c ≤ 488 + 8 * kk) (hw : w ≤ 103327 + 64 * kk) (H : ∀ M', IV sc M' → ok 40 (mLk kk) 0 Q 488 c w 1695 [some (.ref 2000000), some (.ref 0), some (.ref 457), some (.ref 487), some (.int (nI i)), l5, l6] [] M') : ok 40 (mLk kk) 0 Q 488 c w 621 [some (.ref 2000000), some (.ref 0), some (.ref 457), some (.ref 487), some (.int (nI i)), l5, l6] [] M := by
  have hs := hI.2.1
  obtain ⟨r, M1, M2, e1, e2, hs1, hI2⟩ := B_undoes (y := sc (i + 1)) hI
  have i1 := rdi hs h1000 hl (show i + 1 < len by omega)
  have j1 := rdi hs1 h1000 hl (show i + 1 < len by omega)
  have v1 := rdv hs (show i + 1 < 400 by omega)
  have u1 := rdv hs1 (show i + 1 < 400 by omega)
  have H1 := H M2 hI2
  simp (disch := (first | assumption | omega | decide)) only [sK_621, sK_622, sK_623, sK_625, sK_626, sK_627, sK_628, sK_631, sK_632, sK_633, sK_635, sK_636, sK_637, sK_638, sK_641, kI_i, kL_l, kV_v, am_rv_s, am_kl_i, am_kl_r, am_kl_n, am_kl_l, true_and, and_true, and_self, true_or, or_true, implies_true, forall_const, not_true_eq_false, not_false_eq_true, false_implies, true_implies, if_true, if_false, Bool.true_eq_false, Bool.false_eq_true, ob_0, ob_457, nI_1, nI_2, nI_3, nI_q4, nI_q5, eq_self, i1, j1, v1, u1, e1, e2]
  exact H1
theorem L_takes (hI : IV sc M) (h1000 : sc 1000 = nI len) (hl : len ≤ 384) (hj : i + 6 ≤ len) (hc : c ≤ 488 + 8 * kk) (hw : w ≤ 103327 + 64 * kk) (H : ∀ M', IV sc M' → ok 40 (mLk kk) 0 Q 488 c w 1695 [some (.ref 2000000), some (.ref 0), some (.ref 457), some (.ref 487), some (.int (nI i)), l5, l6] [] M') : ok 40 (mLk kk) 0 Q 488 c w 646 [some (.ref 2000000), some (.ref 0), some (.ref 457), some (.ref 487), some (.int (nI i)), l5, l6] [] M := by
  have hs := hI.2.1
  obtain ⟨r, M1, M2, e1, e2, hs1, hI2⟩ := B_takes (ya := sc (i + 1)) (y := sc (i + 2)) hI
  have i1 := rdi hs h1000 hl (show i + 1 < len by omega)
  have j1 := rdi hs1 h1000 hl (show i + 1 < len by omega)
  have v1 := rdv hs (show i + 1 < 400 by omega)
  have u1 := rdv hs1 (show i + 1 < 400 by omega)
  have i2 := rdi hs h1000 hl (show i + 2 < len by omega)
  have j2 := rdi hs1 h1000 hl (show i + 2 < len by omega)
  have v2 := rdv hs (show i + 2 < 400 by omega)
  have u2 := rdv hs1 (show i + 2 < 400 by omega)
  have H1 := H M2 hI2
  simp (disch := (first | assumption | omega | decide)) only [sK_646, sK_647, sK_648, sK_650, sK_651, sK_652, sK_653, sK_654, sK_656, sK_657, sK_658, sK_659, sK_662, sK_663, sK_664, sK_666, sK_667, sK_668, sK_669, sK_670, sK_672, sK_673, sK_674, sK_675, sK_678, kI_i, kL_l, kV_v, am_rv_s, am_kl_i, am_kl_r, am_kl_n, am_kl_l, true_and, and_true, and_self, true_or, or_true, implies_true, forall_const, not_true_eq_false, not_false_eq_true, false_implies, true_implies, if_true, if_false, Bool.true_eq_false, Bool.false_eq_true, ob_0, ob_457, nI_1, nI_2, nI_3, nI_q4, nI_q5, eq_self, i1, j1, v1, u1, i2, j2, v2, u2, e1, e2]
  exact H1
theorem L_enter (hI : IV sc M) (h1000 : sc 1000 = nI len) (hl : len ≤ 384) (hj : i + 6 ≤ len) (hc : c ≤ 488 + 8 * kk) (hw : w ≤ 103327 + 64 * kk) (H : ∀ M', IV sc M' → ok 40 (mLk kk) 0 Q 488 c w 1695 [some (.ref 2000000), some (.ref 0), some (.ref 457), some (.ref 487), some (.int (nI i)), l5, l6] [] M') : ok 40 (mLk kk) 0 Q 488 c w 683 [some (.ref 2000000), some (.ref 0), some (.ref 457), some (.ref 487), some (.int (nI i)), l5, l6] [] M := by
  have hs := hI.2.1
  obtain ⟨r, M1, M2, e1, e2, hs1, hI2⟩ := B_enter (y := sc (i + 1)) hI
  have i1 := rdi hs h1000 hl (show i + 1 < len by omega)
  have j1 := rdi hs1 h1000 hl (show i + 1 < len by omega)
  have v1 := rdv hs (show i + 1 < 400 by omega)
  have u1 := rdv hs1 (show i + 1 < 400 by omega)
  have H1 := H M2 hI2
  simp (disch := (first | assumption | omega | decide)) only [sK_683, sK_684, sK_685, sK_687, sK_688, sK_689, sK_690, sK_693, sK_694, sK_695, sK_697, sK_698, sK_699, sK_700, sK_703, kI_i, kL_l, kV_v, am_rv_s, am_kl_i, am_kl_r, am_kl_n, am_kl_l, true_and, and_true, and_self, true_or, or_true, implies_true, forall_const, not_true_eq_false, not_false_eq_true, false_implies, true_implies, if_true, if_false, Bool.true_eq_false, Bool.false_eq_true, ob_0, ob_457, nI_1, nI_2, nI_3, nI_q4, nI_q5, eq_self, i1, j1, v1, u1, e1, e2]
  exact H1
theorem L_forgets (hI : IV sc M) (h1000 : sc 1000 = nI len) (hl : len ≤ 384) (hj : i + 6 ≤ len) (hc : c ≤ 488 + 8 * kk) (hw : w ≤ 103327 + 64 * kk) (H : ∀ M', IV sc M' → ok 40 (mLk kk) 0 Q 488 c w 1695 [some (.ref 2000000), some (.ref 0), some (.ref 457), some (.ref 487), some (.int (nI i)), l5, l6] [] M') : ok 40 (mLk kk) 0 Q 488 c w 708 [some (.ref 2000000), some (.ref 0), some (.ref 457), some (.ref 487), some (.int (nI i)), l5, l6] [] M := by
  have hs := hI.2.1
  obtain ⟨r, M1, M2, e1, e2, hs1, hI2⟩ := B_forgets (y := sc (i + 1)) (so := sc (i + 2)) hI
  have i1 := rdi hs h1000 hl (show i + 1 < len by omega)
  have j1 := rdi hs1 h1000 hl (show i + 1 < len by omega)
  have v1 := rdv hs (show i + 1 < 400 by omega)
  have u1 := rdv hs1 (show i + 1 < 400 by omega)
  have i2 := rdi hs h1000 hl (show i + 2 < len by omega)
  have j2 := rdi hs1 h1000 hl (show i + 2 < len by omega)
  have v2 := rdv hs (show i + 2 < 400 by omega)
  have u2 := rdv hs1 (show i + 2 < 400 by omega)
  have H1 := H M2 hI2
  simp (disch := (first | assumption | omega | decide)) only [sK_708, sK_709, sK_710, sK_712, sK_713, sK_714, sK_715, sK_716, sK_718, sK_719, sK_720, sK_721, sK_724, sK_725, sK_726, sK_728, sK_729, sK_730, sK_731, sK_732, sK_734, sK_735, sK_736, sK_737, sK_740, kI_i, kL_l, kV_v, am_rv_s, am_kl_i, am_kl_r, am_kl_n, am_kl_l, true_and, and_true, and_self, true_or, or_true, implies_true, forall_const, not_true_eq_false, not_false_eq_true, false_implies, true_implies, if_true, if_false, Bool.true_eq_false, Bool.false_eq_true, ob_0, ob_457, nI_1, nI_2, nI_3, nI_q4, nI_q5, eq_self, i1, j1, v1, u1, i2, j2, v2, u2, e1, e2]
  exact H1
theorem L_sell (hI : IV sc M) (h1000 : sc 1000 = nI len) (hl : len ≤ 384) (hj : i + 6 ≤ len) (hc : c ≤ 488 + 8 * kk) (hw : w ≤ 103327 + 64 * kk) (H : ∀ M', IV sc M' → ok 40 (mLk kk) 0 Q 488 c w 1695 [some (.ref 2000000), some (.ref 0), some (.ref 457), some (.ref 487), some (.int (nI i)), l5, l6] [] M') : ok 40 (mLk kk) 0 Q 488 c w 745 [some (.ref 2000000), some (.ref 0), some (.ref 457), some (.ref 487), some (.int (nI i)), l5, l6] [] M := by
  have hs := hI.2.1
  obtain ⟨r, M1, M2, e1, e2, hs1, hI2⟩ := B_sell  hI
  have H1 := H M2 hI2
  simp (disch := (first | assumption | omega | decide)) only [sK_745, sK_746, sK_749, sK_750, sK_753, kI_i, kL_l, kV_v, am_rv_s, am_kl_i, am_kl_r, am_kl_n, am_kl_l, true_and, and_true, and_self, true_or, or_true, implies_true, forall_const, not_true_eq_false, not_false_eq_true, false_implies, true_implies, if_true, if_false, Bool.true_eq_false, Bool.false_eq_true, ob_0, ob_457, nI_1, nI_2, nI_3, nI_q4, nI_q5, eq_self, e1, e2]
  exact H1
theorem L_years (hI : IV sc M) (h1000 : sc 1000 = nI len) (hl : len ≤ 384) (hj : i + 6 ≤ len) (hc : c ≤ 488 + 8 * kk) (hw : w ≤ 103327 + 64 * kk) (H : ∀ M', IV sc M' → ok 40 (mLk kk) 0 Q 488 c w 1695 [some (.ref 2000000), some (.ref 0), some (.ref 457), some (.ref 487), some (.int (nI i)), l5, l6] [] M') : ok 40 (mLk kk) 0 Q 488 c w 758 [some (.ref 2000000), some (.ref 0), some (.ref 457), some (.ref 487), some (.int (nI i)), l5, l6] [] M := by
  have hs := hI.2.1
  obtain ⟨r, M1, M2, e1, e2, hs1, hI2⟩ := B_years (n := sc (i + 1)) (sd := lg2 (sc (i + 2)) (sc (i + 3))) hI
  have i1 := rdi hs h1000 hl (show i + 1 < len by omega)
  have j1 := rdi hs1 h1000 hl (show i + 1 < len by omega)
  have v1 := rdv hs (show i + 1 < 400 by omega)
  have u1 := rdv hs1 (show i + 1 < 400 by omega)
  have i2 := rdi hs h1000 hl (show i + 2 < len by omega)
  have j2 := rdi hs1 h1000 hl (show i + 2 < len by omega)
  have v2 := rdv hs (show i + 2 < 400 by omega)
  have u2 := rdv hs1 (show i + 2 < 400 by omega)
  have i3 := rdi hs h1000 hl (show i + 3 < len by omega)
  have j3 := rdi hs1 h1000 hl (show i + 3 < len by omega)
  have v3 := rdv hs (show i + 3 < 400 by omega)
  have u3 := rdv hs1 (show i + 3 < 400 by omega)
  have H1 := H M2 hI2
  simp (disch := (first | assumption | omega | decide)) only [sK_758, sK_759, sK_760, sK_762, sK_763, sK_764, sK_765, sK_766, sK_768, sK_769, sK_770, sK_771, sK_772, sK_774, sK_775, sK_776, sK_778, sK_779, sK_780, sK_781, sK_782, sK_785, sK_786, sK_787, sK_790, sK_791, sK_792, sK_794, sK_795, sK_796, sK_797, sK_798, sK_800, sK_801, sK_802, sK_803, sK_804, sK_806, sK_807, sK_808, sK_810, sK_811, sK_812, sK_813, sK_814, sK_817, sK_818, sK_819, sK_822, kI_i, kL_l, kV_v, am_rv_s, am_kl_i, am_kl_r, am_kl_n, am_kl_l, true_and, and_true, and_self, true_or, or_true, implies_true, forall_const, not_true_eq_false, not_false_eq_true, false_implies, true_implies, if_true, if_false, Bool.true_eq_false, Bool.false_eq_true, ob_0, ob_457, nI_1, nI_2, nI_3, nI_q4, nI_q5, eq_self, i1, j1, v1, u1, i2, j2, v2, u2, i3, j3, v3, u3, lg2_e, e1, e2]
  exact H1
end
