/-! counting bits; what a deed needs, its places -/
def us (x z : Int32) : Int32 := (x.toUInt32 >>> (z.toUInt32 &&& Int32.toUInt32 31)).toInt32
def bc1 (x : Int32) : Int32 := x - (us x 1 &&& 1431655765)
def bc2 (x : Int32) : Int32 := (x &&& 858993459) + (us x 2 &&& 858993459)
def bc3 (x : Int32) : Int32 := (x + us x 4) &&& 252645135
def bc4 (x : Int32) : Int32 := x + us x 8
def bc5 (x : Int32) : Int32 := x + us x 16
def bcI (x : Int32) : Int32 := bc5 (bc4 (bc3 (bc2 (bc1 x)))) &&& 63
def pcN : Nat → Nat → Nat
  | 0, _ => 0
  | k + 1, s => pcN k s + (if s.testBit k = true then 1 else 0)
theorem us_e (x z : Int32) : (x.toUInt32 >>> (z.toUInt32 &&& Int32.toUInt32 31)).toInt32 = us x z := rfl
theorem bc1_e (x : Int32) : x - (us x 1 &&& 1431655765) = bc1 x := rfl
theorem bc2_e (x : Int32) : (x &&& 858993459) + (us x 2 &&& 858993459) = bc2 x := rfl
theorem bc3_e (x : Int32) : (x + us x 4) &&& 252645135 = bc3 x := rfl
theorem bc4_e (x : Int32) : x + us x 8 = bc4 x := rfl
theorem bc5_e (x : Int32) : x + us x 16 = bc5 x := rfl
theorem bcI_e (x : Int32) : bc5 (bc4 (bc3 (bc2 (bc1 x)))) &&& 63 = bcI x := rfl
theorem bcN' : ∀ a, a < 64 → ∀ b, b < 64 → bcI (nI (64 * a + b)) = nI (pcN 12 (64 * a + b)) := by decide +kernel
theorem bcN {s : Nat} (h : s < 4096) : bcI (nI s) = nI (pcN 12 s) := by
  have := bcN' (s / 64) (by omega) (s % 64) (by omega)
  rwa [Nat.div_add_mod] at this
section
variable {M N : am_M} {ap lim n : Nat} {S : Sg} {P : List Sg} {l : List Dd} {d : Nat} {Q : am_Q}
theorem c_bits {x : Int32} : am_big (d + 1) mJ6_bitCount_0f7a4 [.int x] 488 M Q = Q (some (.int (bcI x))) M := by
  rw [eJ6_bitCount_0f7a4]
  simp only [sJ6_bitCount_0f7a4_0, sJ6_bitCount_0f7a4_1, sJ6_bitCount_0f7a4_2, sJ6_bitCount_0f7a4_3, sJ6_bitCount_0f7a4_4, sJ6_bitCount_0f7a4_7, sJ6_bitCount_0f7a4_8, sJ6_bitCount_0f7a4_9, sJ6_bitCount_0f7a4_10, sJ6_bitCount_0f7a4_11, sJ6_bitCount_0f7a4_14, sJ6_bitCount_0f7a4_15, sJ6_bitCount_0f7a4_16, sJ6_bitCount_0f7a4_17, sJ6_bitCount_0f7a4_18, sJ6_bitCount_0f7a4_21, sJ6_bitCount_0f7a4_22, sJ6_bitCount_0f7a4_23, sJ6_bitCount_0f7a4_24, sJ6_bitCount_0f7a4_25, sJ6_bitCount_0f7a4_26, sJ6_bitCount_0f7a4_27, sJ6_bitCount_0f7a4_28, sJ6_bitCount_0f7a4_29, sJ6_bitCount_0f7a4_32, sJ6_bitCount_0f7a4_33, sJ6_bitCount_0f7a4_34, sJ6_bitCount_0f7a4_35, sJ6_bitCount_0f7a4_36, sJ6_bitCount_0f7a4_38, sJ6_bitCount_0f7a4_39, sJ6_bitCount_0f7a4_40, sJ6_bitCount_0f7a4_41, sJ6_bitCount_0f7a4_42, sJ6_bitCount_0f7a4_43, sJ6_bitCount_0f7a4_45, sJ6_bitCount_0f7a4_46, sJ6_bitCount_0f7a4_47, sJ6_bitCount_0f7a4_48, sJ6_bitCount_0f7a4_49, sJ6_bitCount_0f7a4_51, sJ6_bitCount_0f7a4_52, kI_i, kL_l, kV_v, am_rv_s, am_kl_i, am_kl_r, am_kl_n, am_kl_l, true_and, and_true, and_self, true_or, or_true, implies_true, forall_const, not_true_eq_false, not_false_eq_true, false_implies, true_implies, if_true, if_false, Bool.true_eq_false, Bool.false_eq_true, us_e, bc1_e, bc2_e, bc3_e, bc4_e, bc5_e, bcI_e]
theorem q00 : ((0 : Int32) < 0) = False := eq_false (by decide)
theorem q10 : ((1 : Int32) < 0) = False := eq_false (by decide)
theorem q01 : ((0 : Int32) ≤ 1) = True := eq_true (by decide)
theorem q11 : ((1 : Int32) ≤ 1) = True := eq_true (by decide)
theorem not01 {v : Int32} (h0 : ¬ v = 0) (h1 : ¬ v = 1) (hn : ¬ v < 0) : (v ≤ 1) = False := by
  have h := in01 (w := v)
  rw [decide_eq_false (p := v = 0 ∨ v = 1) (fun z => z.elim h0 h1), decide_eq_true (Int32.not_lt.mp hn), Bool.true_and] at h
  exact eq_false (of_decide_eq_false h)
def needsA (l : List Dd) (y v : Int32) : Int32 := if 0 ≤ y ∧ y < nI l.length then (if v = 0 then nI (bl l y.toNatClampNeg) else if v = 1 then nI (ab l l.length y.toNatClampNeg) else -1) else -1
def placesA (l : List Dd) (y v : Int32) : Int32 := if 0 ≤ y ∧ y < nI l.length then (if v = 0 then bcI (nI (bl l y.toNatClampNeg)) else if v = 1 then nI l.length - 1 - bcI (nI (ab l l.length y.toNatClampNeg)) else -1) else -1
def sureA (l : List Dd) (y v : Int32) : Int32 := if 0 ≤ y ∧ y < nI l.length then (if 0 ≤ v ∧ v < nI l.length then bz ((bl l v.toNatClampNeg).testBit y.toNatClampNeg) else -1) else -1
theorem c_hasL {a : Nat} {y : Int32} (hL : LH M a l) : am_big (d + 1) mX0_has [.ref a, .int y] 488 M Q = Q (some (.int (bz (decide (0 ≤ y ∧ y < nI l.length))))) M := by rw [c_has hL.1.1, hL.1.2.1]
def XL (c j : Nat) : Prop := (c = 424 ∧ (j = 0 ∨ j = 1)) ∨ c = 429 ∨ c = 430
theorem Fw_lk : Fw XL M (lkM M l) := by
  unfold lkM f2 lk0
  refine (((Fw.r ?_ rfl).tr (Fw.s ?_)).tr (Fw.f (fun k _ => ?_))).tr (Fw.f (fun k _ => ?_)) <;> unfold XL <;> omega
theorem lk_a {k : Nat} (h : k < l.length) : gI (lkM M l) 429 k = nI (bl l k) := f2_a h (by omega)
theorem lk_b {k : Nat} (h : k < l.length) : gI (lkM M l) 430 k = nI (ab l l.length k) := f2_b h
theorem lk_n : gI (lkM M l) 424 1 = nI l.length := (f2_o (by omega) (by omega)).trans gI_e
theorem lk_r : gR (lkM M l) 424 0 = some 4 := gR_e
def XN (c _j : Nat) : Prop := 473 ≤ c ∧ c ≤ 475
theorem Fw_nd : Fw XN M (nd3 M l) := by
  unfold nd3 f3
  refine ((Fw.f (fun k _ => ?_)).tr (Fw.f (fun k _ => ?_))).tr (Fw.f (fun k _ => ?_)) <;> unfold XN <;> omega
theorem nd_a {k : Nat} (h : k < l.length) : gI (nd3 M l) 473 k = nI (drt l k k) := f3_a h
theorem nd_b {k : Nat} (h : k < l.length) : gI (nd3 M l) 474 k = nI (bl l k) := f3_b h
theorem nd_d {k : Nat} (h : k < l.length) : gI (nd3 M l) 475 k = nI (ab l l.length k) := f3_d h
theorem nd_o {c k : Nat} (h : c < 473 ∨ 475 < c) : gI (nd3 M l) c k = gI M c k := f3_o h
theorem c_needs {y v : Int32} (hW : WR M) (h : StC M 3 ap lim S) (hl : S.1.length ≤ 12) : ∃ M', (∀ d (Q : am_Q), am_big (d + 3) mX10_needs [.ref 0, .int y, .int v] 488 M Q = Q (some (.int (needsA S.1 y v))) M') ∧ Fw XL M M' := by
  have hL := StC_LH h
  have ha := fun d (Q : am_Q) => c_hasL (d := d) (Q := Q) (y := y) hL
  have lk := fun d (Q : am_Q) => c_look (d := d) (Q := Q) hW hL hl
  have wl : WR (lkM M S.1) := Fw_lk.2 hW
  unfold needsA
  by_cases c : 0 ≤ y ∧ y < nI S.1.length
  · obtain ⟨e, he, rfl⟩ := deed_x (by omega) c
    rw [if_pos c, nI_clamp (by omega)]
    have z1 : ((1 : Int32) = 0) = False := eq_false (by decide)
    by_cases v0 : v = 0
    · subst v0
      refine ⟨lkM M S.1, fun d Q => ?_, Fw_lk⟩
      rw [eX10_needs]
      simp (disch := (first | assumption | omega | decide)) only [sX10_needs_0, sX10_needs_1, sX10_needs_4, sX10_needs_7, sX10_needs_8, sX10_needs_11, sX10_needs_14, sX10_needs_15, sX10_needs_18, sX10_needs_19, sX10_needs_20, sX10_needs_23, sX10_needs_24, sX10_needs_25, sX10_needs_26, sX10_needs_29, sX10_needs_30, sX10_needs_33, sX10_needs_36, sX10_needs_39, sX10_needs_40, sX10_needs_43, sX10_needs_44, sX10_needs_47, sX10_needs_50, sX10_needs_51, sX10_needs_52, sX10_needs_55, sX10_needs_56, sX10_needs_59, sX10_needs_62, sX10_needs_63, sX10_needs_64, kI_i, kL_l, kV_v, am_rv_s, am_kl_i, am_kl_r, am_kl_n, am_kl_l, true_and, and_true, and_self, true_or, or_true, implies_true, forall_const, not_true_eq_false, not_false_eq_true, false_implies, true_implies, if_true, if_false, Bool.true_eq_false, Bool.false_eq_true, ob_0, ob_3, ob_4, ob_424, r_0_1, r_3_0, r_0_13, ha, c, decide_true, bz_t, i01, q00, q10, q01, q11, lk, r_424_2, in_429 (show e < 12 by omega), nI_clamp (show e < 2147483648 by omega), lk_a he]
    · by_cases v1 : v = 1
      · subst v1
        refine ⟨lkM M S.1, fun d Q => ?_, Fw_lk⟩
        rw [eX10_needs]
        simp (disch := (first | assumption | omega | decide)) only [sX10_needs_0, sX10_needs_1, sX10_needs_4, sX10_needs_7, sX10_needs_8, sX10_needs_11, sX10_needs_14, sX10_needs_15, sX10_needs_18, sX10_needs_19, sX10_needs_20, sX10_needs_23, sX10_needs_24, sX10_needs_25, sX10_needs_26, sX10_needs_29, sX10_needs_30, sX10_needs_33, sX10_needs_36, sX10_needs_39, sX10_needs_40, sX10_needs_43, sX10_needs_44, sX10_needs_47, sX10_needs_50, sX10_needs_51, sX10_needs_52, sX10_needs_55, sX10_needs_56, sX10_needs_59, sX10_needs_62, sX10_needs_63, sX10_needs_64, kI_i, kL_l, kV_v, am_rv_s, am_kl_i, am_kl_r, am_kl_n, am_kl_l, true_and, and_true, and_self, true_or, or_true, implies_true, forall_const, not_true_eq_false, not_false_eq_true, false_implies, true_implies, if_true, if_false, Bool.true_eq_false, Bool.false_eq_true, ob_0, ob_3, ob_4, ob_424, r_0_1, r_3_0, r_0_13, ha, c, decide_true, bz_t, i01, q00, q10, q01, q11, lk, z1, r_424_3, in_430 (show e < 12 by omega), nI_clamp (show e < 2147483648 by omega), lk_b he]
      · refine ⟨M, fun d Q => ?_, Fw.rf⟩
        rw [eX10_needs]
        by_cases vn : v < 0
        · simp (disch := (first | assumption | omega | decide)) only [sX10_needs_0, sX10_needs_1, sX10_needs_4, sX10_needs_7, sX10_needs_8, sX10_needs_11, sX10_needs_14, sX10_needs_15, sX10_needs_18, sX10_needs_19, sX10_needs_20, sX10_needs_23, sX10_needs_24, sX10_needs_25, sX10_needs_26, sX10_needs_29, sX10_needs_30, sX10_needs_33, sX10_needs_36, sX10_needs_39, sX10_needs_40, sX10_needs_43, sX10_needs_44, sX10_needs_47, sX10_needs_50, sX10_needs_51, sX10_needs_52, sX10_needs_55, sX10_needs_56, sX10_needs_59, sX10_needs_62, sX10_needs_63, sX10_needs_64, kI_i, kL_l, kV_v, am_rv_s, am_kl_i, am_kl_r, am_kl_n, am_kl_l, true_and, and_true, and_self, true_or, or_true, implies_true, forall_const, not_true_eq_false, not_false_eq_true, false_implies, true_implies, if_true, if_false, Bool.true_eq_false, Bool.false_eq_true, ob_0, ob_3, ob_4, r_0_1, r_3_0, ha, c, decide_true, bz_t, i01, vn, v0, v1]
        · simp (disch := (first | assumption | omega | decide)) only [sX10_needs_0, sX10_needs_1, sX10_needs_4, sX10_needs_7, sX10_needs_8, sX10_needs_11, sX10_needs_14, sX10_needs_15, sX10_needs_18, sX10_needs_19, sX10_needs_20, sX10_needs_23, sX10_needs_24, sX10_needs_25, sX10_needs_26, sX10_needs_29, sX10_needs_30, sX10_needs_33, sX10_needs_36, sX10_needs_39, sX10_needs_40, sX10_needs_43, sX10_needs_44, sX10_needs_47, sX10_needs_50, sX10_needs_51, sX10_needs_52, sX10_needs_55, sX10_needs_56, sX10_needs_59, sX10_needs_62, sX10_needs_63, sX10_needs_64, kI_i, kL_l, kV_v, am_rv_s, am_kl_i, am_kl_r, am_kl_n, am_kl_l, true_and, and_true, and_self, true_or, or_true, implies_true, forall_const, not_true_eq_false, not_false_eq_true, false_implies, true_implies, if_true, if_false, Bool.true_eq_false, Bool.false_eq_true, ob_0, ob_3, ob_4, r_0_1, r_3_0, ha, c, decide_true, bz_t, i01, vn, not01 v0 v1 vn, v0, v1]
  · refine ⟨M, fun d Q => ?_, Fw.rf⟩
    rw [eX10_needs, if_neg c]
    simp (disch := (first | assumption | omega | decide)) only [sX10_needs_0, sX10_needs_1, sX10_needs_4, sX10_needs_7, sX10_needs_8, sX10_needs_11, sX10_needs_14, sX10_needs_15, sX10_needs_18, sX10_needs_19, sX10_needs_20, sX10_needs_23, sX10_needs_24, sX10_needs_25, sX10_needs_26, sX10_needs_29, sX10_needs_30, sX10_needs_33, sX10_needs_36, sX10_needs_39, sX10_needs_40, sX10_needs_43, sX10_needs_44, sX10_needs_47, sX10_needs_50, sX10_needs_51, sX10_needs_52, sX10_needs_55, sX10_needs_56, sX10_needs_59, sX10_needs_62, sX10_needs_63, sX10_needs_64, kI_i, kL_l, kV_v, am_rv_s, am_kl_i, am_kl_r, am_kl_n, am_kl_l, true_and, and_true, and_self, true_or, or_true, implies_true, forall_const, not_true_eq_false, not_false_eq_true, false_implies, true_implies, if_true, if_false, Bool.true_eq_false, Bool.false_eq_true, ob_0, ob_3, ob_4, r_0_1, r_3_0, ha, c, decide_false, bz_f]
theorem c_places {y v : Int32} (hW : WR M) (h : StC M 3 ap lim S) (hl : S.1.length ≤ 12) : ∃ M', (∀ d (Q : am_Q), am_big (d + 3) mX10_places [.ref 0, .int y, .int v] 488 M Q = Q (some (.int (placesA S.1 y v))) M') ∧ Fw XL M M' := by
  have hL := StC_LH h
  have ha := fun d (Q : am_Q) => c_hasL (d := d) (Q := Q) (y := y) hL
  have lk := fun d (Q : am_Q) => c_look (d := d) (Q := Q) hW hL hl
  have wl : WR (lkM M S.1) := Fw_lk.2 hW
  unfold placesA
  by_cases c : 0 ≤ y ∧ y < nI S.1.length
  · obtain ⟨e, he, rfl⟩ := deed_x (by omega) c
    rw [if_pos c, nI_clamp (by omega)]
    have z1 : ((1 : Int32) = 0) = False := eq_false (by decide)
    have ea : ∀ d (Q : am_Q), am_big (d + 2) mX5_earliest [.ref 424, .int (nI e)] 488 (lkM M S.1) Q = Q (some (.int (bcI (nI (bl S.1 e))))) (lkM M S.1) := fun d Q => by
      rw [eX5_earliest]
      simp (disch := (first | assumption | omega | decide)) only [sX5_earliest_0, sX5_earliest_1, sX5_earliest_4, sX5_earliest_5, sX5_earliest_6, sX5_earliest_9, kI_i, kL_l, kV_v, am_rv_s, am_kl_i, am_kl_r, am_kl_n, am_kl_l, true_and, and_true, and_self, true_or, or_true, implies_true, forall_const, not_true_eq_false, not_false_eq_true, false_implies, true_implies, if_true, if_false, Bool.true_eq_false, Bool.false_eq_true, ob_424, r_424_2, in_429 (show e < 12 by omega), nI_clamp (show e < 2147483648 by omega), lk_a he, c_bits]
    have la : ∀ d (Q : am_Q), am_big (d + 2) mX5_latest [.ref 424, .int (nI e)] 488 (lkM M S.1) Q = Q (some (.int (nI S.1.length - 1 - bcI (nI (ab S.1 S.1.length e))))) (lkM M S.1) := fun d Q => by
      rw [eX5_latest]
      simp (disch := (first | assumption | omega | decide)) only [sX5_latest_0, sX5_latest_1, sX5_latest_4, sX5_latest_5, sX5_latest_6, sX5_latest_7, sX5_latest_10, sX5_latest_11, sX5_latest_12, sX5_latest_15, sX5_latest_16, kI_i, kL_l, kV_v, am_rv_s, am_kl_i, am_kl_r, am_kl_n, am_kl_l, true_and, and_true, and_self, true_or, or_true, implies_true, forall_const, not_true_eq_false, not_false_eq_true, false_implies, true_implies, if_true, if_false, Bool.true_eq_false, Bool.false_eq_true, ob_424, r_424_3, in_430 (show e < 12 by omega), nI_clamp (show e < 2147483648 by omega), lk_b he, lk_n, c_bits]
    by_cases v0 : v = 0
    · subst v0
      refine ⟨lkM M S.1, fun d Q => ?_, Fw_lk⟩
      rw [eX10_places]
      simp (disch := (first | assumption | omega | decide)) only [sX10_places_0, sX10_places_1, sX10_places_4, sX10_places_7, sX10_places_8, sX10_places_11, sX10_places_14, sX10_places_15, sX10_places_18, sX10_places_19, sX10_places_20, sX10_places_23, sX10_places_24, sX10_places_25, sX10_places_26, sX10_places_29, sX10_places_30, sX10_places_33, sX10_places_36, sX10_places_39, sX10_places_40, sX10_places_43, sX10_places_44, sX10_places_47, sX10_places_48, sX10_places_51, sX10_places_54, sX10_places_55, sX10_places_58, sX10_places_59, sX10_places_62, kI_i, kL_l, kV_v, am_rv_s, am_kl_i, am_kl_r, am_kl_n, am_kl_l, true_and, and_true, and_self, true_or, or_true, implies_true, forall_const, not_true_eq_false, not_false_eq_true, false_implies, true_implies, if_true, if_false, Bool.true_eq_false, Bool.false_eq_true, ob_0, ob_3, ob_4, ob_424, r_0_1, r_3_0, r_0_13, ha, c, decide_true, bz_t, i01, q00, q10, q01, q11, lk, ea]
    · by_cases v1 : v = 1
      · subst v1
        refine ⟨lkM M S.1, fun d Q => ?_, Fw_lk⟩
        rw [eX10_places]
        simp (disch := (first | assumption | omega | decide)) only [sX10_places_0, sX10_places_1, sX10_places_4, sX10_places_7, sX10_places_8, sX10_places_11, sX10_places_14, sX10_places_15, sX10_places_18, sX10_places_19, sX10_places_20, sX10_places_23, sX10_places_24, sX10_places_25, sX10_places_26, sX10_places_29, sX10_places_30, sX10_places_33, sX10_places_36, sX10_places_39, sX10_places_40, sX10_places_43, sX10_places_44, sX10_places_47, sX10_places_48, sX10_places_51, sX10_places_54, sX10_places_55, sX10_places_58, sX10_places_59, sX10_places_62, kI_i, kL_l, kV_v, am_rv_s, am_kl_i, am_kl_r, am_kl_n, am_kl_l, true_and, and_true, and_self, true_or, or_true, implies_true, forall_const, not_true_eq_false, not_false_eq_true, false_implies, true_implies, if_true, if_false, Bool.true_eq_false, Bool.false_eq_true, ob_0, ob_3, ob_4, ob_424, r_0_1, r_3_0, r_0_13, ha, c, decide_true, bz_t, i01, q00, q10, q01, q11, lk, z1, la]
      · refine ⟨M, fun d Q => ?_, Fw.rf⟩
        rw [eX10_places]
        by_cases vn : v < 0
        · simp (disch := (first | assumption | omega | decide)) only [sX10_places_0, sX10_places_1, sX10_places_4, sX10_places_7, sX10_places_8, sX10_places_11, sX10_places_14, sX10_places_15, sX10_places_18, sX10_places_19, sX10_places_20, sX10_places_23, sX10_places_24, sX10_places_25, sX10_places_26, sX10_places_29, sX10_places_30, sX10_places_33, sX10_places_36, sX10_places_39, sX10_places_40, sX10_places_43, sX10_places_44, sX10_places_47, sX10_places_48, sX10_places_51, sX10_places_54, sX10_places_55, sX10_places_58, sX10_places_59, sX10_places_62, kI_i, kL_l, kV_v, am_rv_s, am_kl_i, am_kl_r, am_kl_n, am_kl_l, true_and, and_true, and_self, true_or, or_true, implies_true, forall_const, not_true_eq_false, not_false_eq_true, false_implies, true_implies, if_true, if_false, Bool.true_eq_false, Bool.false_eq_true, ob_0, ob_3, ob_4, r_0_1, r_3_0, ha, c, decide_true, bz_t, i01, vn, v0, v1]
        · simp (disch := (first | assumption | omega | decide)) only [sX10_places_0, sX10_places_1, sX10_places_4, sX10_places_7, sX10_places_8, sX10_places_11, sX10_places_14, sX10_places_15, sX10_places_18, sX10_places_19, sX10_places_20, sX10_places_23, sX10_places_24, sX10_places_25, sX10_places_26, sX10_places_29, sX10_places_30, sX10_places_33, sX10_places_36, sX10_places_39, sX10_places_40, sX10_places_43, sX10_places_44, sX10_places_47, sX10_places_48, sX10_places_51, sX10_places_54, sX10_places_55, sX10_places_58, sX10_places_59, sX10_places_62, kI_i, kL_l, kV_v, am_rv_s, am_kl_i, am_kl_r, am_kl_n, am_kl_l, true_and, and_true, and_self, true_or, or_true, implies_true, forall_const, not_true_eq_false, not_false_eq_true, false_implies, true_implies, if_true, if_false, Bool.true_eq_false, Bool.false_eq_true, ob_0, ob_3, ob_4, r_0_1, r_3_0, ha, c, decide_true, bz_t, i01, vn, not01 v0 v1 vn, v0, v1]
  · refine ⟨M, fun d Q => ?_, Fw.rf⟩
    rw [eX10_places, if_neg c]
    simp (disch := (first | assumption | omega | decide)) only [sX10_places_0, sX10_places_1, sX10_places_4, sX10_places_7, sX10_places_8, sX10_places_11, sX10_places_14, sX10_places_15, sX10_places_18, sX10_places_19, sX10_places_20, sX10_places_23, sX10_places_24, sX10_places_25, sX10_places_26, sX10_places_29, sX10_places_30, sX10_places_33, sX10_places_36, sX10_places_39, sX10_places_40, sX10_places_43, sX10_places_44, sX10_places_47, sX10_places_48, sX10_places_51, sX10_places_54, sX10_places_55, sX10_places_58, sX10_places_59, sX10_places_62, kI_i, kL_l, kV_v, am_rv_s, am_kl_i, am_kl_r, am_kl_n, am_kl_l, true_and, and_true, and_self, true_or, or_true, implies_true, forall_const, not_true_eq_false, not_false_eq_true, false_implies, true_implies, if_true, if_false, Bool.true_eq_false, Bool.false_eq_true, ob_0, ob_3, ob_4, r_0_1, r_3_0, ha, c, decide_false, bz_f]
theorem c_sure {y v : Int32} (hW : WR M) (h : StC M 3 ap lim S) (hl : S.1.length ≤ 12) : ∃ M', (∀ d (Q : am_Q), am_big (d + 3) mX10_sure [.ref 0, .int y, .int v] 488 M Q = Q (some (.int (sureA S.1 y v))) M') ∧ Fw XL M M' := by
  have hL := StC_LH h
  have ha := fun d (Q : am_Q) (y : Int32) => c_hasL (d := d) (Q := Q) (y := y) hL
  have lk := fun d (Q : am_Q) => c_look (d := d) (Q := Q) hW hL hl
  have wl : WR (lkM M S.1) := Fw_lk.2 hW
  unfold sureA
  by_cases c : 0 ≤ y ∧ y < nI S.1.length
  · by_cases c2 : 0 ≤ v ∧ v < nI S.1.length
    · rw [if_pos c, if_pos c2]
      obtain ⟨e, he, rfl⟩ := deed_x (by omega) c
      obtain ⟨f, hf, rfl⟩ := deed_x (by omega) c2
      rw [nI_clamp (show e < 2 ^ 31 by omega), nI_clamp (show f < 2 ^ 31 by omega)]
      have hb : bl S.1 f < 2 ^ 31 := Nat.lt_of_lt_of_le (bl_lt f) (Nat.pow_le_pow_right (by omega) (by omega))
      refine ⟨lkM M S.1, fun d Q => ?_, Fw_lk⟩
      rw [eX10_sure]
      simp (disch := (first | assumption | omega | decide)) only [sX10_sure_0, sX10_sure_1, sX10_sure_4, sX10_sure_7, sX10_sure_8, sX10_sure_11, sX10_sure_14, sX10_sure_15, sX10_sure_18, sX10_sure_21, sX10_sure_22, sX10_sure_25, sX10_sure_28, sX10_sure_29, sX10_sure_30, sX10_sure_31, sX10_sure_34, sX10_sure_35, sX10_sure_38, sX10_sure_41, sX10_sure_44, sX10_sure_45, sX10_sure_48, sX10_sure_51, sX10_sure_52, sX10_sure_53, sX10_sure_54, sX10_sure_55, sX10_sure_56, sX10_sure_57, kI_i, kL_l, kV_v, am_rv_s, am_kl_i, am_kl_r, am_kl_n, am_kl_l, true_and, and_true, and_self, true_or, or_true, implies_true, forall_const, not_true_eq_false, not_false_eq_true, false_implies, true_implies, if_true, if_false, Bool.true_eq_false, Bool.false_eq_true, ob_0, ob_3, ob_4, ob_424, r_0_1, r_3_0, r_0_13, ha, c, c2, decide_true, bz_t, i01, q00, q10, q01, q11, lk, r_424_2, in_429 (show f < 12 by omega), nI_clamp (show f < 2147483648 by omega), lk_a hf, nI_bit hb (show e < 32 by omega)]
    · refine ⟨M, fun d Q => ?_, Fw.rf⟩
      rw [eX10_sure, if_pos c, if_neg c2]
      simp (disch := (first | assumption | omega | decide)) only [sX10_sure_0, sX10_sure_1, sX10_sure_4, sX10_sure_7, sX10_sure_8, sX10_sure_11, sX10_sure_14, sX10_sure_15, sX10_sure_18, sX10_sure_21, sX10_sure_22, sX10_sure_25, sX10_sure_28, sX10_sure_29, sX10_sure_30, sX10_sure_31, sX10_sure_34, sX10_sure_35, sX10_sure_38, sX10_sure_41, sX10_sure_44, sX10_sure_45, sX10_sure_48, sX10_sure_51, sX10_sure_52, sX10_sure_53, sX10_sure_54, sX10_sure_55, sX10_sure_56, sX10_sure_57, kI_i, kL_l, kV_v, am_rv_s, am_kl_i, am_kl_r, am_kl_n, am_kl_l, true_and, and_true, and_self, true_or, or_true, implies_true, forall_const, not_true_eq_false, not_false_eq_true, false_implies, true_implies, if_true, if_false, Bool.true_eq_false, Bool.false_eq_true, ob_0, ob_3, ob_4, r_0_1, r_3_0, ha, c, c2, decide_true, decide_false, bz_t, i01, bz_f]
  · refine ⟨M, fun d Q => ?_, Fw.rf⟩
    rw [eX10_sure, if_neg c]
    simp (disch := (first | assumption | omega | decide)) only [sX10_sure_0, sX10_sure_1, sX10_sure_4, sX10_sure_7, sX10_sure_8, sX10_sure_11, sX10_sure_14, sX10_sure_15, sX10_sure_18, sX10_sure_21, sX10_sure_22, sX10_sure_25, sX10_sure_28, sX10_sure_29, sX10_sure_30, sX10_sure_31, sX10_sure_34, sX10_sure_35, sX10_sure_38, sX10_sure_41, sX10_sure_44, sX10_sure_45, sX10_sure_48, sX10_sure_51, sX10_sure_52, sX10_sure_53, sX10_sure_54, sX10_sure_55, sX10_sure_56, sX10_sure_57, kI_i, kL_l, kV_v, am_rv_s, am_kl_i, am_kl_r, am_kl_n, am_kl_l, true_and, and_true, and_self, true_or, or_true, implies_true, forall_const, not_true_eq_false, not_false_eq_true, false_implies, true_implies, if_true, if_false, Bool.true_eq_false, Bool.false_eq_true, ob_0, ob_3, ob_4, r_0_1, r_3_0, ha, c, decide_false, bz_f]
def XMN (c j : Nat) : Prop := XMr c j ∨ XN c j
theorem m_needs {y v : Int32} (h : RS M ap lim S P) : ∃ M', (∀ d (Q : am_Q), am_big (d + 3) mX11_needs [.ref 457, .int y, .int v] 488 M Q = Q (some (.int (needsA S.1 y v))) M') ∧ Fw XMN M M' := by
  have f0 : Fw XMN M (sI M 457 0 0) := Fw_thr.mo (fun c j z => Or.inl z)
  obtain ⟨hW, hS, hP, hf, hm, hw, hlim, ht⟩ := RS_th h
  generalize hM0 : sI M 457 0 0 = M0 at *
  have hl := hS.1
  have idd := fun d (Q : am_Q) => m_isDeed (d := d) (Q := Q) (y := y) hW hS.p
  have ln := fun d (Q : am_Q) => m_laysNeeds (d := d) (Q := Q) hW hS.p hw
  have wn : WR (nd3 M0 S.1) := Fw_nd.2 hW
  have f1 : Fw XMN M (nd3 M0 S.1) := f0.tr (Fw_nd.mo (fun c j z => Or.inr z))
  have z1 : ((1 : Int32) = 0) = False := eq_false (by decide)
  unfold needsA
  by_cases c : 0 ≤ y ∧ y < nI S.1.length
  · obtain ⟨e, he, rfl⟩ := deed_x (by omega) c
    rw [if_pos c, nI_clamp (by omega)]
    by_cases v0 : v = 0
    · subst v0
      refine ⟨nd3 M0 S.1, fun d Q => ?_, f1⟩
      rw [eX11_needs]
      simp (disch := (first | assumption | omega | decide)) only [sX11_needs_0, sX11_needs_1, sX11_needs_2, sX11_needs_5, sX11_needs_6, sX11_needs_7, sX11_needs_10, sX11_needs_13, sX11_needs_14, sX11_needs_15, sX11_needs_16, sX11_needs_17, sX11_needs_20, sX11_needs_23, sX11_needs_24, sX11_needs_25, sX11_needs_26, sX11_needs_29, sX11_needs_30, sX11_needs_33, sX11_needs_34, sX11_needs_37, sX11_needs_38, sX11_needs_39, sX11_needs_42, sX11_needs_43, sX11_needs_46, sX11_needs_47, sX11_needs_48, kI_i, kL_l, kV_v, am_rv_s, am_kl_i, am_kl_r, am_kl_n, am_kl_l, true_and, and_true, and_self, true_or, or_true, implies_true, forall_const, not_true_eq_false, not_false_eq_true, false_implies, true_implies, if_true, if_false, Bool.true_eq_false, Bool.false_eq_true, ob_457, hM0, idd, c, decide_true, bz_t, i01, c64_0, c64_1, m_isIn, in01, true_or, ln, r_457_38, in_474 (show e < 12 by omega), nI_clamp (show e < 2147483648 by omega), nd_b he]
    · by_cases v1 : v = 1
      · subst v1
        refine ⟨nd3 M0 S.1, fun d Q => ?_, f1⟩
        rw [eX11_needs]
        simp (disch := (first | assumption | omega | decide)) only [sX11_needs_0, sX11_needs_1, sX11_needs_2, sX11_needs_5, sX11_needs_6, sX11_needs_7, sX11_needs_10, sX11_needs_13, sX11_needs_14, sX11_needs_15, sX11_needs_16, sX11_needs_17, sX11_needs_20, sX11_needs_23, sX11_needs_24, sX11_needs_25, sX11_needs_26, sX11_needs_29, sX11_needs_30, sX11_needs_33, sX11_needs_34, sX11_needs_37, sX11_needs_38, sX11_needs_39, sX11_needs_42, sX11_needs_43, sX11_needs_46, sX11_needs_47, sX11_needs_48, kI_i, kL_l, kV_v, am_rv_s, am_kl_i, am_kl_r, am_kl_n, am_kl_l, true_and, and_true, and_self, true_or, or_true, implies_true, forall_const, not_true_eq_false, not_false_eq_true, false_implies, true_implies, if_true, if_false, Bool.true_eq_false, Bool.false_eq_true, ob_457, hM0, idd, c, decide_true, bz_t, i01, c64_0, c64_1, m_isIn, in01, or_true, ln, z1, r_457_39, in_475 (show e < 12 by omega), nI_clamp (show e < 2147483648 by omega), nd_d he]
      · refine ⟨M0, fun d Q => ?_, f0⟩
        rw [eX11_needs]
        simp (disch := (first | assumption | omega | decide)) only [sX11_needs_0, sX11_needs_1, sX11_needs_2, sX11_needs_5, sX11_needs_6, sX11_needs_7, sX11_needs_10, sX11_needs_13, sX11_needs_14, sX11_needs_15, sX11_needs_16, sX11_needs_17, sX11_needs_20, sX11_needs_23, sX11_needs_24, sX11_needs_25, sX11_needs_26, sX11_needs_29, sX11_needs_30, sX11_needs_33, sX11_needs_34, sX11_needs_37, sX11_needs_38, sX11_needs_39, sX11_needs_42, sX11_needs_43, sX11_needs_46, sX11_needs_47, sX11_needs_48, kI_i, kL_l, kV_v, am_rv_s, am_kl_i, am_kl_r, am_kl_n, am_kl_l, true_and, and_true, and_self, true_or, or_true, implies_true, forall_const, not_true_eq_false, not_false_eq_true, false_implies, true_implies, if_true, if_false, Bool.true_eq_false, Bool.false_eq_true, ob_457, hM0, idd, c, decide_true, bz_t, i01, c64_0, c64_1, m_isIn, in01, v0, v1, or_self, decide_false, bz_f]
  · refine ⟨M0, fun d Q => ?_, f0⟩
    rw [eX11_needs, if_neg c]
    simp (disch := (first | assumption | omega | decide)) only [sX11_needs_0, sX11_needs_1, sX11_needs_2, sX11_needs_5, sX11_needs_6, sX11_needs_7, sX11_needs_10, sX11_needs_13, sX11_needs_14, sX11_needs_15, sX11_needs_16, sX11_needs_17, sX11_needs_20, sX11_needs_23, sX11_needs_24, sX11_needs_25, sX11_needs_26, sX11_needs_29, sX11_needs_30, sX11_needs_33, sX11_needs_34, sX11_needs_37, sX11_needs_38, sX11_needs_39, sX11_needs_42, sX11_needs_43, sX11_needs_46, sX11_needs_47, sX11_needs_48, kI_i, kL_l, kV_v, am_rv_s, am_kl_i, am_kl_r, am_kl_n, am_kl_l, true_and, and_true, and_self, true_or, or_true, implies_true, forall_const, not_true_eq_false, not_false_eq_true, false_implies, true_implies, if_true, if_false, Bool.true_eq_false, Bool.false_eq_true, ob_457, hM0, idd, c, decide_false, bz_f]
theorem m_places {y v : Int32} (h : RS M ap lim S P) : ∃ M', (∀ d (Q : am_Q), am_big (d + 3) mX11_places [.ref 457, .int y, .int v] 488 M Q = Q (some (.int (placesA S.1 y v))) M') ∧ Fw XMN M M' := by
  have f0 : Fw XMN M (sI M 457 0 0) := Fw_thr.mo (fun c j z => Or.inl z)
  obtain ⟨hW, hS, hP, hf, hm, hw, hlim, ht⟩ := RS_th h
  generalize hM0 : sI M 457 0 0 = M0 at *
  have hl := hS.1
  have g36 : gI (nd3 M0 S.1) 465 36 = nI S.1.length := by rw [nd_o (by omega)]; have := hS.2.1; rwa [Nat.zero_add] at this
  have idd := fun d (Q : am_Q) => m_isDeed (d := d) (Q := Q) (y := y) hW hS.p
  have ln := fun d (Q : am_Q) => m_laysNeeds (d := d) (Q := Q) hW hS.p hw
  have wn : WR (nd3 M0 S.1) := Fw_nd.2 hW
  have f1 : Fw XMN M (nd3 M0 S.1) := f0.tr (Fw_nd.mo (fun c j z => Or.inr z))
  have z1 : ((1 : Int32) = 0) = False := eq_false (by decide)
  unfold placesA
  by_cases c : 0 ≤ y ∧ y < nI S.1.length
  · obtain ⟨e, he, rfl⟩ := deed_x (by omega) c
    rw [if_pos c, nI_clamp (by omega)]
    by_cases v0 : v = 0
    · subst v0
      refine ⟨nd3 M0 S.1, fun d Q => ?_, f1⟩
      rw [eX11_places]
      simp (disch := (first | assumption | omega | decide)) only [sX11_places_0, sX11_places_1, sX11_places_2, sX11_places_5, sX11_places_6, sX11_places_7, sX11_places_10, sX11_places_13, sX11_places_14, sX11_places_15, sX11_places_16, sX11_places_17, sX11_places_20, sX11_places_23, sX11_places_24, sX11_places_25, sX11_places_26, sX11_places_29, sX11_places_30, sX11_places_33, sX11_places_34, sX11_places_37, sX11_places_38, sX11_places_39, sX11_places_42, sX11_places_45, sX11_places_46, sX11_places_49, sX11_places_51, sX11_places_52, sX11_places_53, sX11_places_54, sX11_places_55, sX11_places_58, sX11_places_59, sX11_places_60, sX11_places_63, sX11_places_64, kI_i, kL_l, kV_v, am_rv_s, am_kl_i, am_kl_r, am_kl_n, am_kl_l, true_and, and_true, and_self, true_or, or_true, implies_true, forall_const, not_true_eq_false, not_false_eq_true, false_implies, true_implies, if_true, if_false, Bool.true_eq_false, Bool.false_eq_true, ob_457, hM0, idd, c, decide_true, bz_t, i01, c64_0, c64_1, m_isIn, in01, true_or, ln, r_457_38, in_474 (show e < 12 by omega), nI_clamp (show e < 2147483648 by omega), nd_b he, c_bits]
    · by_cases v1 : v = 1
      · subst v1
        refine ⟨nd3 M0 S.1, fun d Q => ?_, f1⟩
        rw [eX11_places]
        simp (disch := (first | assumption | omega | decide)) only [sX11_places_0, sX11_places_1, sX11_places_2, sX11_places_5, sX11_places_6, sX11_places_7, sX11_places_10, sX11_places_13, sX11_places_14, sX11_places_15, sX11_places_16, sX11_places_17, sX11_places_20, sX11_places_23, sX11_places_24, sX11_places_25, sX11_places_26, sX11_places_29, sX11_places_30, sX11_places_33, sX11_places_34, sX11_places_37, sX11_places_38, sX11_places_39, sX11_places_42, sX11_places_45, sX11_places_46, sX11_places_49, sX11_places_51, sX11_places_52, sX11_places_53, sX11_places_54, sX11_places_55, sX11_places_58, sX11_places_59, sX11_places_60, sX11_places_63, sX11_places_64, kI_i, kL_l, kV_v, am_rv_s, am_kl_i, am_kl_r, am_kl_n, am_kl_l, true_and, and_true, and_self, true_or, or_true, implies_true, forall_const, not_true_eq_false, not_false_eq_true, false_implies, true_implies, if_true, if_false, Bool.true_eq_false, Bool.false_eq_true, ob_457, hM0, idd, c, decide_true, bz_t, i01, c64_0, c64_1, m_isIn, in01, or_true, ln, z1, r_457_27, r_457_39, n36, in_465, in_475, nI_clamp, g36, nd_d he, c_bits]
      · refine ⟨M0, fun d Q => ?_, f0⟩
        rw [eX11_places]
        simp (disch := (first | assumption | omega | decide)) only [sX11_places_0, sX11_places_1, sX11_places_2, sX11_places_5, sX11_places_6, sX11_places_7, sX11_places_10, sX11_places_13, sX11_places_14, sX11_places_15, sX11_places_16, sX11_places_17, sX11_places_20, sX11_places_23, sX11_places_24, sX11_places_25, sX11_places_26, sX11_places_29, sX11_places_30, sX11_places_33, sX11_places_34, sX11_places_37, sX11_places_38, sX11_places_39, sX11_places_42, sX11_places_45, sX11_places_46, sX11_places_49, sX11_places_51, sX11_places_52, sX11_places_53, sX11_places_54, sX11_places_55, sX11_places_58, sX11_places_59, sX11_places_60, sX11_places_63, sX11_places_64, kI_i, kL_l, kV_v, am_rv_s, am_kl_i, am_kl_r, am_kl_n, am_kl_l, true_and, and_true, and_self, true_or, or_true, implies_true, forall_const, not_true_eq_false, not_false_eq_true, false_implies, true_implies, if_true, if_false, Bool.true_eq_false, Bool.false_eq_true, ob_457, hM0, idd, c, decide_true, bz_t, i01, c64_0, c64_1, m_isIn, in01, v0, v1, or_self, decide_false, bz_f]
  · refine ⟨M0, fun d Q => ?_, f0⟩
    rw [eX11_places, if_neg c]
    simp (disch := (first | assumption | omega | decide)) only [sX11_places_0, sX11_places_1, sX11_places_2, sX11_places_5, sX11_places_6, sX11_places_7, sX11_places_10, sX11_places_13, sX11_places_14, sX11_places_15, sX11_places_16, sX11_places_17, sX11_places_20, sX11_places_23, sX11_places_24, sX11_places_25, sX11_places_26, sX11_places_29, sX11_places_30, sX11_places_33, sX11_places_34, sX11_places_37, sX11_places_38, sX11_places_39, sX11_places_42, sX11_places_45, sX11_places_46, sX11_places_49, sX11_places_51, sX11_places_52, sX11_places_53, sX11_places_54, sX11_places_55, sX11_places_58, sX11_places_59, sX11_places_60, sX11_places_63, sX11_places_64, kI_i, kL_l, kV_v, am_rv_s, am_kl_i, am_kl_r, am_kl_n, am_kl_l, true_and, and_true, and_self, true_or, or_true, implies_true, forall_const, not_true_eq_false, not_false_eq_true, false_implies, true_implies, if_true, if_false, Bool.true_eq_false, Bool.false_eq_true, ob_457, hM0, idd, c, decide_false, bz_f]
theorem m_sure {y v : Int32} (h : RS M ap lim S P) : ∃ M', (∀ d (Q : am_Q), am_big (d + 3) mX11_sure [.ref 457, .int y, .int v] 488 M Q = Q (some (.int (sureA S.1 y v))) M') ∧ Fw XMN M M' := by
  have f0 : Fw XMN M (sI M 457 0 0) := Fw_thr.mo (fun c j z => Or.inl z)
  obtain ⟨hW, hS, hP, hf, hm, hw, hlim, ht⟩ := RS_th h
  generalize hM0 : sI M 457 0 0 = M0 at *
  have hl := hS.1
  have idd := fun d (Q : am_Q) (y : Int32) => m_isDeed (d := d) (Q := Q) (y := y) hW hS.p
  have ln := fun d (Q : am_Q) => m_laysNeeds (d := d) (Q := Q) hW hS.p hw
  have wn : WR (nd3 M0 S.1) := Fw_nd.2 hW
  have f1 : Fw XMN M (nd3 M0 S.1) := f0.tr (Fw_nd.mo (fun c j z => Or.inr z))
  unfold sureA
  by_cases c : 0 ≤ y ∧ y < nI S.1.length
  · by_cases c2 : 0 ≤ v ∧ v < nI S.1.length
    · rw [if_pos c, if_pos c2]
      obtain ⟨e, he, rfl⟩ := deed_x (by omega) c
      obtain ⟨f, hf, rfl⟩ := deed_x (by omega) c2
      rw [nI_clamp (show e < 2 ^ 31 by omega), nI_clamp (show f < 2 ^ 31 by omega)]
      have hb : bl S.1 f < 2 ^ 31 := Nat.lt_of_lt_of_le (bl_lt f) (Nat.pow_le_pow_right (by omega) (by omega))
      refine ⟨nd3 M0 S.1, fun d Q => ?_, f1⟩
      rw [eX11_sure]
      simp (disch := (first | assumption | omega | decide)) only [sX11_sure_0, sX11_sure_1, sX11_sure_2, sX11_sure_5, sX11_sure_6, sX11_sure_7, sX11_sure_10, sX11_sure_13, sX11_sure_14, sX11_sure_15, sX11_sure_18, sX11_sure_21, sX11_sure_22, sX11_sure_23, sX11_sure_24, sX11_sure_27, sX11_sure_28, sX11_sure_31, sX11_sure_32, sX11_sure_33, sX11_sure_34, sX11_sure_35, sX11_sure_36, sX11_sure_37, kI_i, kL_l, kV_v, am_rv_s, am_kl_i, am_kl_r, am_kl_n, am_kl_l, true_and, and_true, and_self, true_or, or_true, implies_true, forall_const, not_true_eq_false, not_false_eq_true, false_implies, true_implies, if_true, if_false, Bool.true_eq_false, Bool.false_eq_true, ob_457, hM0, idd, c, c2, decide_true, bz_t, i01, ln, r_457_38, in_474 (show f < 12 by omega), nI_clamp (show f < 2147483648 by omega), nd_b hf, nI_bit hb (show e < 32 by omega)]
    · refine ⟨M0, fun d Q => ?_, f0⟩
      rw [eX11_sure, if_pos c, if_neg c2]
      simp (disch := (first | assumption | omega | decide)) only [sX11_sure_0, sX11_sure_1, sX11_sure_2, sX11_sure_5, sX11_sure_6, sX11_sure_7, sX11_sure_10, sX11_sure_13, sX11_sure_14, sX11_sure_15, sX11_sure_18, sX11_sure_21, sX11_sure_22, sX11_sure_23, sX11_sure_24, sX11_sure_27, sX11_sure_28, sX11_sure_31, sX11_sure_32, sX11_sure_33, sX11_sure_34, sX11_sure_35, sX11_sure_36, sX11_sure_37, kI_i, kL_l, kV_v, am_rv_s, am_kl_i, am_kl_r, am_kl_n, am_kl_l, true_and, and_true, and_self, true_or, or_true, implies_true, forall_const, not_true_eq_false, not_false_eq_true, false_implies, true_implies, if_true, if_false, Bool.true_eq_false, Bool.false_eq_true, ob_457, hM0, idd, c, c2, decide_true, decide_false, bz_t, i01, bz_f]
  · refine ⟨M0, fun d Q => ?_, f0⟩
    rw [eX11_sure, if_neg c]
    simp (disch := (first | assumption | omega | decide)) only [sX11_sure_0, sX11_sure_1, sX11_sure_2, sX11_sure_5, sX11_sure_6, sX11_sure_7, sX11_sure_10, sX11_sure_13, sX11_sure_14, sX11_sure_15, sX11_sure_18, sX11_sure_21, sX11_sure_22, sX11_sure_23, sX11_sure_24, sX11_sure_27, sX11_sure_28, sX11_sure_31, sX11_sure_32, sX11_sure_33, sX11_sure_34, sX11_sure_35, sX11_sure_36, sX11_sure_37, kI_i, kL_l, kV_v, am_rv_s, am_kl_i, am_kl_r, am_kl_n, am_kl_l, true_and, and_true, and_self, true_or, or_true, implies_true, forall_const, not_true_eq_false, not_false_eq_true, false_implies, true_implies, if_true, if_false, Bool.true_eq_false, Bool.false_eq_true, ob_457, hM0, idd, c, decide_false, bz_f]
end
