/-! constructors -/
def i0 (M : am_M) (a : Nat) : am_M := sI (sR (sR (sR M a 0 (some (a + 1))) a 1 (some (a + 2))) a 2 (some (a + 3))) a 3 0
def i8 (M : am_M) (a : Nat) : am_M := sI (sR (sR (sI (sI (sI (sR (sR (sR (i0 M (a + 1)) a 0 (some (a + 1))) a 1 (some (a + 5))) a 2 (some (a + 6))) a 3 0) a 4 12) a 5 0) a 6 (some (a + 7))) a 7 (some (a + 8))) a 8 0
def i2 (M : am_M) (a : Nat) : am_M := sI (sR (sR M a 0 (some (a + 1))) a 1 (some (a + 2))) a 2 0
def p6 (M : am_M) : Nat → am_M
  | 0 => sI (sI (sR M 30 0 (some 31)) 30 1 0) 30 2 0
  | k + 1 => sR (i8 (p6 M k) (32 + 9 * k)) 31 k (some (32 + 9 * k))
def p3 (M : am_M) : Nat → am_M
  | 0 => sI (sI (sR (sR M 392 0 (some 393)) 392 1 (some 394)) 392 2 0) 392 3 (-1)
  | k + 1 => sR (i2 (p3 M k) (395 + 3 * k)) 393 k (some (395 + 3 * k))
theorem leT {a b : Nat} (h : a ≤ b) : (a ≤ b) = True := eq_true h
theorem ltN {n : Nat} (h : n < 488) : (n < am_NN) = True := eq_true h
theorem obs {n a c : Nat} (h : a < n) (hT : am_T a = (0, c)) : am_ob n a c = True := eq_true ⟨h, hT⟩
theorem iwg {n a k L kd : Nat} (ha : a < n) (hT : am_T a = (kd, L)) (hk : k < L) (hL : L ≤ 65536) : am_iw n a kd (nI k) = True := eq_true ⟨ha, by rw [hT], by rw [hT]; exact vp_in_nI hk (by show L < _; omega)⟩
theorem mkE {y : am_Y} {P : am_P} {kd L n c w pc : Nat} {x : Int32} {ls : List (Option Value)} {r : List Value} {M : am_M} (hx : x.toNatClampNeg = L) (h0 : ¬ x < 0) (hL : L ≤ 65536) (hn : n < 488) (hT : am_T n = (kd, L)) (hc : c + 1 ≤ (am_al y).2.1) (hw : w + L ≤ (am_al y).2.2) : am_mk y P kd x n c w pc ls r M = P (n + 1) (c + 1) (w + L) pc ls (.ref n :: r) M := by
  unfold am_mk
  subst hx
  exact propext ⟨fun z => z.2, fun z => ⟨⟨hn, hT, h0, hL, hc, hw⟩, z⟩⟩
theorem mk1 {y : am_Y} {P : am_P} {kd n c w pc : Nat} {ls : List (Option Value)} {r : List Value} {M : am_M} (hn : n < 488) (hT : am_T n = (kd, 1)) (hc : c + 1 ≤ (am_al y).2.1) (hw : w + 1 ≤ (am_al y).2.2) : am_mk y P kd 1 n c w pc ls r M = P (n + 1) (c + 1) (w + 1) pc ls (.ref n :: r) M := mkE (by decide) (by decide) (by omega) hn hT hc hw
theorem mk4 {y : am_Y} {P : am_P} {kd n c w pc : Nat} {ls : List (Option Value)} {r : List Value} {M : am_M} (hn : n < 488) (hT : am_T n = (kd, 4)) (hc : c + 1 ≤ (am_al y).2.1) (hw : w + 4 ≤ (am_al y).2.2) : am_mk y P kd 4 n c w pc ls r M = P (n + 1) (c + 1) (w + 4) pc ls (.ref n :: r) M := mkE (by decide) (by decide) (by omega) hn hT hc hw
theorem mk5 {y : am_Y} {P : am_P} {kd n c w pc : Nat} {ls : List (Option Value)} {r : List Value} {M : am_M} (hn : n < 488) (hT : am_T n = (kd, 5)) (hc : c + 1 ≤ (am_al y).2.1) (hw : w + 5 ≤ (am_al y).2.2) : am_mk y P kd 5 n c w pc ls r M = P (n + 1) (c + 1) (w + 5) pc ls (.ref n :: r) M := mkE (by decide) (by decide) (by omega) hn hT hc hw
theorem mk6 {y : am_Y} {P : am_P} {kd n c w pc : Nat} {ls : List (Option Value)} {r : List Value} {M : am_M} (hn : n < 488) (hT : am_T n = (kd, 6)) (hc : c + 1 ≤ (am_al y).2.1) (hw : w + 6 ≤ (am_al y).2.2) : am_mk y P kd 6 n c w pc ls r M = P (n + 1) (c + 1) (w + 6) pc ls (.ref n :: r) M := mkE (by decide) (by decide) (by omega) hn hT hc hw
theorem mk8 {y : am_Y} {P : am_P} {kd n c w pc : Nat} {ls : List (Option Value)} {r : List Value} {M : am_M} (hn : n < 488) (hT : am_T n = (kd, 8)) (hc : c + 1 ≤ (am_al y).2.1) (hw : w + 8 ≤ (am_al y).2.2) : am_mk y P kd 8 n c w pc ls r M = P (n + 1) (c + 1) (w + 8) pc ls (.ref n :: r) M := mkE (by decide) (by decide) (by omega) hn hT hc hw
theorem mk10 {y : am_Y} {P : am_P} {kd n c w pc : Nat} {ls : List (Option Value)} {r : List Value} {M : am_M} (hn : n < 488) (hT : am_T n = (kd, 10)) (hc : c + 1 ≤ (am_al y).2.1) (hw : w + 10 ≤ (am_al y).2.2) : am_mk y P kd 10 n c w pc ls r M = P (n + 1) (c + 1) (w + 10) pc ls (.ref n :: r) M := mkE (by decide) (by decide) (by omega) hn hT hc hw
theorem mk12 {y : am_Y} {P : am_P} {kd n c w pc : Nat} {ls : List (Option Value)} {r : List Value} {M : am_M} (hn : n < 488) (hT : am_T n = (kd, 12)) (hc : c + 1 ≤ (am_al y).2.1) (hw : w + 12 ≤ (am_al y).2.2) : am_mk y P kd 12 n c w pc ls r M = P (n + 1) (c + 1) (w + 12) pc ls (.ref n :: r) M := mkE (by decide) (by decide) (by omega) hn hT hc hw
theorem mk16 {y : am_Y} {P : am_P} {kd n c w pc : Nat} {ls : List (Option Value)} {r : List Value} {M : am_M} (hn : n < 488) (hT : am_T n = (kd, 16)) (hc : c + 1 ≤ (am_al y).2.1) (hw : w + 16 ≤ (am_al y).2.2) : am_mk y P kd 16 n c w pc ls r M = P (n + 1) (c + 1) (w + 16) pc ls (.ref n :: r) M := mkE (by decide) (by decide) (by omega) hn hT hc hw
theorem mk30 {y : am_Y} {P : am_P} {kd n c w pc : Nat} {ls : List (Option Value)} {r : List Value} {M : am_M} (hn : n < 488) (hT : am_T n = (kd, 30)) (hc : c + 1 ≤ (am_al y).2.1) (hw : w + 30 ≤ (am_al y).2.2) : am_mk y P kd 30 n c w pc ls r M = P (n + 1) (c + 1) (w + 30) pc ls (.ref n :: r) M := mkE (by decide) (by decide) (by omega) hn hT hc hw
theorem mk40 {y : am_Y} {P : am_P} {kd n c w pc : Nat} {ls : List (Option Value)} {r : List Value} {M : am_M} (hn : n < 488) (hT : am_T n = (kd, 40)) (hc : c + 1 ≤ (am_al y).2.1) (hw : w + 40 ≤ (am_al y).2.2) : am_mk y P kd 40 n c w pc ls r M = P (n + 1) (c + 1) (w + 40) pc ls (.ref n :: r) M := mkE (by decide) (by decide) (by omega) hn hT hc hw
theorem mk60 {y : am_Y} {P : am_P} {kd n c w pc : Nat} {ls : List (Option Value)} {r : List Value} {M : am_M} (hn : n < 488) (hT : am_T n = (kd, 60)) (hc : c + 1 ≤ (am_al y).2.1) (hw : w + 60 ≤ (am_al y).2.2) : am_mk y P kd 60 n c w pc ls r M = P (n + 1) (c + 1) (w + 60) pc ls (.ref n :: r) M := mkE (by decide) (by decide) (by omega) hn hT hc hw
theorem mk64 {y : am_Y} {P : am_P} {kd n c w pc : Nat} {ls : List (Option Value)} {r : List Value} {M : am_M} (hn : n < 488) (hT : am_T n = (kd, 64)) (hc : c + 1 ≤ (am_al y).2.1) (hw : w + 64 ≤ (am_al y).2.2) : am_mk y P kd 64 n c w pc ls r M = P (n + 1) (c + 1) (w + 64) pc ls (.ref n :: r) M := mkE (by decide) (by decide) (by omega) hn hT hc hw
theorem mk128 {y : am_Y} {P : am_P} {kd n c w pc : Nat} {ls : List (Option Value)} {r : List Value} {M : am_M} (hn : n < 488) (hT : am_T n = (kd, 128)) (hc : c + 1 ≤ (am_al y).2.1) (hw : w + 128 ≤ (am_al y).2.2) : am_mk y P kd 128 n c w pc ls r M = P (n + 1) (c + 1) (w + 128) pc ls (.ref n :: r) M := mkE (by decide) (by decide) (by omega) hn hT hc hw
theorem mk164 {y : am_Y} {P : am_P} {kd n c w pc : Nat} {ls : List (Option Value)} {r : List Value} {M : am_M} (hn : n < 488) (hT : am_T n = (kd, 164)) (hc : c + 1 ≤ (am_al y).2.1) (hw : w + 164 ≤ (am_al y).2.2) : am_mk y P kd 164 n c w pc ls r M = P (n + 1) (c + 1) (w + 164) pc ls (.ref n :: r) M := mkE (by decide) (by decide) (by omega) hn hT hc hw
theorem mk240 {y : am_Y} {P : am_P} {kd n c w pc : Nat} {ls : List (Option Value)} {r : List Value} {M : am_M} (hn : n < 488) (hT : am_T n = (kd, 240)) (hc : c + 1 ≤ (am_al y).2.1) (hw : w + 240 ≤ (am_al y).2.2) : am_mk y P kd 240 n c w pc ls r M = P (n + 1) (c + 1) (w + 240) pc ls (.ref n :: r) M := mkE (by decide) (by decide) (by omega) hn hT hc hw
theorem mk480 {y : am_Y} {P : am_P} {kd n c w pc : Nat} {ls : List (Option Value)} {r : List Value} {M : am_M} (hn : n < 488) (hT : am_T n = (kd, 480)) (hc : c + 1 ≤ (am_al y).2.1) (hw : w + 480 ≤ (am_al y).2.2) : am_mk y P kd 480 n c w pc ls r M = P (n + 1) (c + 1) (w + 480) pc ls (.ref n :: r) M := mkE (by decide) (by decide) (by omega) hn hT hc hw
theorem mk864 {y : am_Y} {P : am_P} {kd n c w pc : Nat} {ls : List (Option Value)} {r : List Value} {M : am_M} (hn : n < 488) (hT : am_T n = (kd, 864)) (hc : c + 1 ≤ (am_al y).2.1) (hw : w + 864 ≤ (am_al y).2.2) : am_mk y P kd 864 n c w pc ls r M = P (n + 1) (c + 1) (w + 864) pc ls (.ref n :: r) M := mkE (by decide) (by decide) (by omega) hn hT hc hw
theorem mk960 {y : am_Y} {P : am_P} {kd n c w pc : Nat} {ls : List (Option Value)} {r : List Value} {M : am_M} (hn : n < 488) (hT : am_T n = (kd, 960)) (hc : c + 1 ≤ (am_al y).2.1) (hw : w + 960 ≤ (am_al y).2.2) : am_mk y P kd 960 n c w pc ls r M = P (n + 1) (c + 1) (w + 960) pc ls (.ref n :: r) M := mkE (by decide) (by decide) (by omega) hn hT hc hw
theorem mk4096 {y : am_Y} {P : am_P} {kd n c w pc : Nat} {ls : List (Option Value)} {r : List Value} {M : am_M} (hn : n < 488) (hT : am_T n = (kd, 4096)) (hc : c + 1 ≤ (am_al y).2.1) (hw : w + 4096 ≤ (am_al y).2.2) : am_mk y P kd 4096 n c w pc ls r M = P (n + 1) (c + 1) (w + 4096) pc ls (.ref n :: r) M := mkE (by decide) (by decide) (by omega) hn hT hc hw
theorem mk6560 {y : am_Y} {P : am_P} {kd n c w pc : Nat} {ls : List (Option Value)} {r : List Value} {M : am_M} (hn : n < 488) (hT : am_T n = (kd, 6560)) (hc : c + 1 ≤ (am_al y).2.1) (hw : w + 6560 ≤ (am_al y).2.2) : am_mk y P kd 6560 n c w pc ls r M = P (n + 1) (c + 1) (w + 6560) pc ls (.ref n :: r) M := mkE (by decide) (by decide) (by omega) hn hT hc hw
theorem mk8191 {y : am_Y} {P : am_P} {kd n c w pc : Nat} {ls : List (Option Value)} {r : List Value} {M : am_M} (hn : n < 488) (hT : am_T n = (kd, 8191)) (hc : c + 1 ≤ (am_al y).2.1) (hw : w + 8191 ≤ (am_al y).2.2) : am_mk y P kd 8191 n c w pc ls r M = P (n + 1) (c + 1) (w + 8191) pc ls (.ref n :: r) M := mkE (by decide) (by decide) (by omega) hn hT hc hw
theorem mk24576 {y : am_Y} {P : am_P} {kd n c w pc : Nat} {ls : List (Option Value)} {r : List Value} {M : am_M} (hn : n < 488) (hT : am_T n = (kd, 24576)) (hc : c + 1 ≤ (am_al y).2.1) (hw : w + 24576 ≤ (am_al y).2.2) : am_mk y P kd 24576 n c w pc ls r M = P (n + 1) (c + 1) (w + 24576) pc ls (.ref n :: r) M := mkE (by decide) (by decide) (by omega) hn hT hc hw
section
variable {M : am_M} {d a : Nat} {Q : am_Q}
theorem c_init0 (ha : a + 3 < 488) (h0 : am_T a = (0, 0)) (h1 : am_T (a + 1) = (1, 16)) (h2 : am_T (a + 2) = (1, 16)) (h3 : am_T (a + 3) = (1, 16)) : am_big (d + 1) mX0_init [.ref a] (a + 1) M Q = Q none (i0 M a) := by
  have rt : am_ret mX0_init (a + 1) (a + 4) 3 48 = True := eq_true ⟨rfl, rfl, rfl⟩
  rw [eX0_init]
  simp (disch := (first | assumption | omega | decide)) only [sX0_init_0, sX0_init_1, sX0_init_4, sX0_init_5, sX0_init_7, sX0_init_9, sX0_init_12, sX0_init_13, sX0_init_15, sX0_init_17, sX0_init_20, sX0_init_21, sX0_init_23, sX0_init_25, sX0_init_28, sX0_init_29, sX0_init_30, sX0_init_33, kI_i, kL_l, kV_v, am_rv_s, am_kl_i, am_kl_r, am_kl_n, am_kl_l, true_and, and_true, and_self, true_or, or_true, implies_true, forall_const, not_true_eq_false, not_false_eq_true, false_implies, true_implies, if_true, if_false, Bool.true_eq_false, Bool.false_eq_true, mk16, obs, Nat.add_assoc, Nat.reduceAdd, rt]
  rfl
theorem c_init8 (ha : a + 8 < 488) (h0 : am_T a = (0, 8)) (h1 : am_T (a + 1) = (0, 0)) (h2 : am_T (a + 2) = (1, 16)) (h3 : am_T (a + 3) = (1, 16)) (h4 : am_T (a + 4) = (1, 16)) (h5 : am_T (a + 5) = (1, 4)) (h6 : am_T (a + 6) = (1, 4)) (h7 : am_T (a + 7) = (1, 60)) (h8 : am_T (a + 8) = (1, 60)) : am_big (d + 2) mX8_init [.ref a] (a + 1) M Q = Q none (i8 M a) := by
  have rt : am_ret mX8_init (a + 1) (a + 9) 8 180 = True := eq_true ⟨rfl, rfl, rfl⟩
  have e0 : ∀ d (Q : am_Q) (M : am_M), am_big (d + 1) mX0_init [.ref (a + 1)] (a + 2) M Q = Q none (i0 M (a + 1)) := fun d Q M => c_init0 (a := a + 1) (by omega) h1 h2 h3 h4
  rw [eX8_init]
  simp (disch := (first | assumption | omega | decide)) only [sX8_init_0, sX8_init_1, sX8_init_4, sX8_init_5, sX8_init_8, sX8_init_9, sX8_init_12, sX8_init_15, sX8_init_16, sX8_init_17, sX8_init_19, sX8_init_22, sX8_init_23, sX8_init_24, sX8_init_26, sX8_init_29, sX8_init_30, sX8_init_31, sX8_init_34, sX8_init_35, sX8_init_37, sX8_init_40, sX8_init_41, sX8_init_42, sX8_init_45, sX8_init_46, sX8_init_48, sX8_init_50, sX8_init_53, sX8_init_54, sX8_init_56, sX8_init_58, sX8_init_61, sX8_init_62, sX8_init_63, sX8_init_66, kI_i, kL_l, kV_v, am_rv_s, am_kl_i, am_kl_r, am_kl_n, am_kl_l, true_and, and_true, and_self, true_or, or_true, implies_true, forall_const, not_true_eq_false, not_false_eq_true, false_implies, true_implies, if_true, if_false, Bool.true_eq_false, Bool.false_eq_true, mk4, mk60, obs, ltN, h1, leT, Nat.add_assoc, Nat.reduceAdd, e0, rt]
  rfl
theorem c_init2 (ha : a + 2 < 488) (h0 : am_T a = (0, 2)) (h1 : am_T (a + 1) = (1, 480)) (h2 : am_T (a + 2) = (1, 64)) : am_big (d + 1) mX2_init [.ref a] (a + 1) M Q = Q none (i2 M a) := by
  have rt : am_ret mX2_init (a + 1) (a + 3) 2 544 = True := eq_true ⟨rfl, rfl, rfl⟩
  rw [eX2_init]
  simp (disch := (first | assumption | omega | decide)) only [sX2_init_0, sX2_init_1, sX2_init_4, sX2_init_5, sX2_init_8, sX2_init_10, sX2_init_13, sX2_init_14, sX2_init_16, sX2_init_18, sX2_init_21, sX2_init_22, sX2_init_23, sX2_init_26, kI_i, kL_l, kV_v, am_rv_s, am_kl_i, am_kl_r, am_kl_n, am_kl_l, true_and, and_true, and_self, true_or, or_true, implies_true, forall_const, not_true_eq_false, not_false_eq_true, false_implies, true_implies, if_true, if_false, Bool.true_eq_false, Bool.false_eq_true, mk480, mk64, obs, Nat.add_assoc, Nat.reduceAdd, rt]
  rfl
/-- a step of the loop in which the states of the past are made -/
theorem p6_step {b c w k : Nat} (hb : 31 < b) (hb2 : b + 8 < 488) (hk : k < 40) (hc : c + 9 ≤ 361) (hw : w + 189 ≤ 7600) (hr : gR M 30 0 = some 31) (h0 : am_T b = (0, 8)) (h1 : am_T (b + 1) = (0, 0)) (h2 : am_T (b + 2) = (1, 16)) (h3 : am_T (b + 3) = (1, 16)) (h4 : am_T (b + 4) = (1, 16)) (h5 : am_T (b + 5) = (1, 4)) (h6 : am_T (b + 6) = (1, 4)) (h7 : am_T (b + 7) = (1, 60)) (h8 : am_T (b + 8) = (1, 60)) : ok (d + 2) mX6_init 31 Q b c w 25 [some (.ref 30), some (.int (nI k))] [] M = ok (d + 2) mX6_init 31 Q (b + 9) (c + 9) (w + 189) 25 [some (.ref 30), some (.int (nI (k + 1)))] [] (sR (i8 M b) 31 k (some b)) := by
  have e8 := fun d (Q : am_Q) => c_init8 (M := M) (d := d) (Q := Q) hb2 h0 h1 h2 h3 h4 h5 h6 h7 h8
  have e0 : ((40 : Int32) ≤ nI k) = False := by rw [show (40 : Int32) = nI 40 from rfl, nI_leE (by omega) (by omega)]; exact eq_false (by omega)
  have t30 : am_T 30 = (0, 6) := rfl
  have az : am_iw (b + 9) 31 6 (nI k) = True := iwg (L := 40) (by omega) rfl hk (by omega)
  have ck : (nI k).toNatClampNeg = k := nI_clamp (by omega)
  rw [sX6_init_25]
  simp (disch := (first | assumption | omega | decide)) only [sX6_init_0, sX6_init_1, sX6_init_4, sX6_init_5, sX6_init_7, sX6_init_10, sX6_init_13, sX6_init_14, sX6_init_15, sX6_init_18, sX6_init_19, sX6_init_20, sX6_init_23, sX6_init_24, sX6_init_26, sX6_init_28, sX6_init_31, sX6_init_32, sX6_init_35, sX6_init_36, sX6_init_39, sX6_init_40, sX6_init_43, sX6_init_44, sX6_init_47, sX6_init_50, kI_i, kL_l, kV_v, am_rv_s, am_kl_i, am_kl_r, am_kl_n, am_kl_l, true_and, and_true, and_self, true_or, or_true, implies_true, forall_const, not_true_eq_false, not_false_eq_true, false_implies, true_implies, if_true, if_false, Bool.true_eq_false, Bool.false_eq_true, e0, obs, hr, ltN, h0, leT, Nat.add_assoc, Nat.reduceAdd, e8, az, ck, nI_1]
theorem p3_step {b c w k : Nat} (hb : 394 < b) (hb2 : b + 2 < 488) (hk : k < 4) (hc : c + 3 ≤ 14) (hw : w + 547 ≤ 2198) (hr : gR M 392 0 = some 393) (h0 : am_T b = (0, 2)) (h1 : am_T (b + 1) = (1, 480)) (h2 : am_T (b + 2) = (1, 64)) : ok (d + 1) mX3_init 393 Q b c w 32 [some (.ref 392), some (.int (nI k))] [] M = ok (d + 1) mX3_init 393 Q (b + 3) (c + 3) (w + 547) 32 [some (.ref 392), some (.int (nI (k + 1)))] [] (sR (i2 M b) 393 k (some b)) := by
  have e8 := fun d (Q : am_Q) => c_init2 (M := M) (d := d) (Q := Q) hb2 h0 h1 h2
  have e0 : ((4 : Int32) ≤ nI k) = False := by rw [show (4 : Int32) = nI 4 from rfl, nI_leE (by omega) (by omega)]; exact eq_false (by omega)
  have t30 : am_T 392 = (0, 3) := rfl
  have az : am_iw (b + 3) 393 7 (nI k) = True := iwg (L := 4) (by omega) rfl hk (by omega)
  have ck : (nI k).toNatClampNeg = k := nI_clamp (by omega)
  rw [sX3_init_32]
  simp (disch := (first | assumption | omega | decide)) only [sX3_init_0, sX3_init_1, sX3_init_4, sX3_init_5, sX3_init_6, sX3_init_9, sX3_init_12, sX3_init_13, sX3_init_15, sX3_init_17, sX3_init_20, sX3_init_21, sX3_init_22, sX3_init_25, sX3_init_26, sX3_init_27, sX3_init_30, sX3_init_31, sX3_init_33, sX3_init_34, sX3_init_37, sX3_init_38, sX3_init_41, sX3_init_42, sX3_init_45, sX3_init_46, sX3_init_49, sX3_init_50, sX3_init_53, sX3_init_56, kI_i, kL_l, kV_v, am_rv_s, am_kl_i, am_kl_r, am_kl_n, am_kl_l, true_and, and_true, and_self, true_or, or_true, implies_true, forall_const, not_true_eq_false, not_false_eq_true, false_implies, true_implies, if_true, if_false, Bool.true_eq_false, Bool.false_eq_true, e0, obs, hr, ltN, h0, leT, Nat.add_assoc, Nat.reduceAdd, e8, az, ck, nI_1]
theorem p10_step {b c w k : Nat} (hb : 411 < b) (hb2 : b + 3 < 488) (hk : k < 4) (hc : c + 4 ≤ 456) (hw : w + 52 ≤ 45293) (hr : gR M 0 8 = some 411) (h0 : am_T b = (0, 0)) (h1 : am_T (b + 1) = (1, 16)) (h2 : am_T (b + 2) = (1, 16)) (h3 : am_T (b + 3) = (1, 16)) : ok (d + 1) mX10_init 1 Q b c w 172 [some (.ref 0), some (.int (nI k))] [] M = ok (d + 1) mX10_init 1 Q (b + 4) (c + 4) (w + 52) 172 [some (.ref 0), some (.int (nI (k + 1)))] [] (sR (i0 M b) 411 k (some b)) := by
  have e8 := fun d (Q : am_Q) => c_init0 (M := M) (d := d) (Q := Q) hb2 h0 h1 h2 h3
  have e0 : ((4 : Int32) ≤ nI k) = False := by rw [show (4 : Int32) = nI 4 from rfl, nI_leE (by omega) (by omega)]; exact eq_false (by omega)
  have t30 : am_T 0 = (0, 10) := rfl
  have az : am_iw (b + 4) 411 5 (nI k) = True := iwg (L := 4) (by omega) rfl hk (by omega)
  have ck : (nI k).toNatClampNeg = k := nI_clamp (by omega)
  rw [sX10_init_172]
  simp (disch := (first | assumption | omega | decide)) only [sX10_init_0, sX10_init_1, sX10_init_4, sX10_init_5, sX10_init_8, sX10_init_9, sX10_init_12, sX10_init_15, sX10_init_16, sX10_init_19, sX10_init_20, sX10_init_23, sX10_init_26, sX10_init_27, sX10_init_30, sX10_init_31, sX10_init_34, sX10_init_37, sX10_init_38, sX10_init_41, sX10_init_42, sX10_init_45, sX10_init_48, sX10_init_49, sX10_init_50, sX10_init_53, sX10_init_54, sX10_init_57, sX10_init_58, sX10_init_61, sX10_init_64, sX10_init_65, sX10_init_68, sX10_init_69, sX10_init_72, sX10_init_75, sX10_init_76, sX10_init_79, sX10_init_80, sX10_init_83, sX10_init_86, sX10_init_87, sX10_init_88, sX10_init_91, sX10_init_94, sX10_init_95, sX10_init_96, sX10_init_99, sX10_init_100, sX10_init_103, sX10_init_104, sX10_init_107, sX10_init_110, sX10_init_111, sX10_init_114, sX10_init_115, sX10_init_118, sX10_init_121, sX10_init_122, sX10_init_125, sX10_init_126, sX10_init_129, sX10_init_132, sX10_init_133, sX10_init_136, sX10_init_137, sX10_init_140, sX10_init_143, sX10_init_144, sX10_init_147, sX10_init_148, sX10_init_151, sX10_init_154, sX10_init_155, sX10_init_158, sX10_init_159, sX10_init_162, sX10_init_165, sX10_init_166, sX10_init_167, sX10_init_170, sX10_init_171, sX10_init_173, sX10_init_174, sX10_init_177, sX10_init_178, sX10_init_181, sX10_init_182, sX10_init_185, sX10_init_186, sX10_init_189, sX10_init_190, sX10_init_193, sX10_init_196, kI_i, kL_l, kV_v, am_rv_s, am_kl_i, am_kl_r, am_kl_n, am_kl_l, true_and, and_true, and_self, true_or, or_true, implies_true, forall_const, not_true_eq_false, not_false_eq_true, false_implies, true_implies, if_true, if_false, Bool.true_eq_false, Bool.false_eq_true, e0, obs, hr, ltN, h0, leT, Nat.add_assoc, Nat.reduceAdd, e8, az, ck, nI_1]
theorem gR_p6 : ∀ k, gR (p6 M k) 30 0 = some 31
  | 0 => by
    show gR (sI (sI (sR M 30 0 (some 31)) 30 1 0) 30 2 0) 30 0 = some 31
    rw [gR_sI, gR_sI, gR_e]
  | k + 1 => by
    show gR (sR (i8 (p6 M k) (32 + 9 * k)) 31 k (some (32 + 9 * k))) 30 0 = some 31
    unfold i8 i0
    simp (disch := (first | assumption | omega | decide)) only [gR_sI, gR_o]
    exact gR_p6 k
theorem gR_p3 : ∀ k, gR (p3 M k) 392 0 = some 393
  | 0 => by
    show gR (sI (sI (sR (sR M 392 0 (some 393)) 392 1 (some 394)) 392 2 0) 392 3 (-1)) 392 0 = some 393
    rw [gR_sI, gR_sI, gR_j (by omega), gR_e]
  | k + 1 => by
    show gR (sR (i2 (p3 M k) (395 + 3 * k)) 393 k (some (395 + 3 * k))) 392 0 = some 393
    unfold i2
    simp (disch := (first | assumption | omega | decide)) only [gR_sI, gR_o]
    exact gR_p3 k
theorem c_init6 : am_big (d + 3) mX6_init [.ref 30] 31 M Q = Q none (p6 M 40) := by
  have l0 := loop0 (P := fun k => ok (d + 2) mX6_init 31 Q (32 + 9 * k) (1 + 9 * k) (40 + 189 * k) 25 [some (.ref 30), some (.int (nI k))] [] (p6 M k)) (n := 40) (fun k hk => by
    obtain ⟨⟨t0, t1, t2, t3, t4, t5, t6, t7, t8⟩, _⟩ := STs_tab k hk
    have := p6_step (d := d) (Q := Q) (M := p6 M k) (b := 32 + 9 * k) (c := 1 + 9 * k) (w := 40 + 189 * k) (k := k) (by omega) (by omega) hk (by omega) (by omega) (gR_p6 k) t0 t1 t2 t3 t4 t5 t6 t7 t8
    rw [show 32 + 9 * k + 9 = 32 + 9 * (k + 1) by omega, show 1 + 9 * k + 9 = 1 + 9 * (k + 1) by omega, show 40 + 189 * k + 189 = 40 + 189 * (k + 1) by omega] at this
    exact this)
  have l1 : ok (d + 2) mX6_init 31 Q 32 1 40 25 [some (.ref 30), some (.int 0)] [] (sI (sI (sR M 30 0 (some 31)) 30 1 0) 30 2 0) = _ := l0
  have t30 : am_T 30 = (0, 6) := rfl
  have t31 : am_T 31 = (6, 40) := rfl
  have rt : am_ret mX6_init 31 (32 + 9 * 40) (1 + 9 * 40) (40 + 189 * 40) = True := eq_true ⟨rfl, rfl, rfl⟩
  have e4 : ((40 : Int32) ≤ nI 40) = True := eq_true (by decide)
  rw [eX6_init]
  simp (disch := (first | assumption | omega | decide)) only [sX6_init_0, sX6_init_1, sX6_init_4, sX6_init_5, sX6_init_7, sX6_init_10, sX6_init_13, sX6_init_14, sX6_init_15, sX6_init_18, sX6_init_19, sX6_init_20, sX6_init_23, sX6_init_24, sX6_init_26, sX6_init_28, sX6_init_31, sX6_init_32, sX6_init_35, sX6_init_36, sX6_init_39, sX6_init_40, sX6_init_43, sX6_init_44, sX6_init_47, sX6_init_50, kI_i, kL_l, kV_v, am_rv_s, am_kl_i, am_kl_r, am_kl_n, am_kl_l, true_and, and_true, and_self, true_or, or_true, implies_true, forall_const, not_true_eq_false, not_false_eq_true, false_implies, true_implies, if_true, if_false, Bool.true_eq_false, Bool.false_eq_true, mk40, obs, Nat.reduceAdd, l1]
  rw [sX6_init_25]
  simp (disch := (first | assumption | omega | decide)) only [sX6_init_0, sX6_init_1, sX6_init_4, sX6_init_5, sX6_init_7, sX6_init_10, sX6_init_13, sX6_init_14, sX6_init_15, sX6_init_18, sX6_init_19, sX6_init_20, sX6_init_23, sX6_init_24, sX6_init_26, sX6_init_28, sX6_init_31, sX6_init_32, sX6_init_35, sX6_init_36, sX6_init_39, sX6_init_40, sX6_init_43, sX6_init_44, sX6_init_47, sX6_init_50, kI_i, kL_l, kV_v, am_rv_s, am_kl_i, am_kl_r, am_kl_n, am_kl_l, true_and, and_true, and_self, true_or, or_true, implies_true, forall_const, not_true_eq_false, not_false_eq_true, false_implies, true_implies, if_true, if_false, Bool.true_eq_false, Bool.false_eq_true, e4, rt]
theorem c_init3 : am_big (d + 2) mX3_init [.ref 392] 393 M Q = Q none (p3 M 4) := by
  have tb : ∀ k, k < 4 → am_T (395 + 3 * k) = (0, 2) ∧ am_T (395 + 3 * k + 1) = (1, 480) ∧ am_T (395 + 3 * k + 2) = (1, 64) := by decide +kernel
  have l0 := loop0 (P := fun k => ok (d + 1) mX3_init 393 Q (395 + 3 * k) (2 + 3 * k) (10 + 547 * k) 32 [some (.ref 392), some (.int (nI k))] [] (p3 M k)) (n := 4) (fun k hk => by
    obtain ⟨t0, t1, t2⟩ := tb k hk
    have := p3_step (d := d) (Q := Q) (M := p3 M k) (b := 395 + 3 * k) (c := 2 + 3 * k) (w := 10 + 547 * k) (k := k) (by omega) (by omega) hk (by omega) (by omega) (gR_p3 k) t0 t1 t2
    rw [show 395 + 3 * k + 3 = 395 + 3 * (k + 1) by omega, show 2 + 3 * k + 3 = 2 + 3 * (k + 1) by omega, show 10 + 547 * k + 547 = 10 + 547 * (k + 1) by omega] at this
    exact this)
  have l1 : ok (d + 1) mX3_init 393 Q 395 2 10 32 [some (.ref 392), some (.int 0)] [] (sI (sI (sR (sR M 392 0 (some 393)) 392 1 (some 394)) 392 2 0) 392 3 (-1)) = _ := l0
  have t0 : am_T 392 = (0, 3) := rfl
  have t1 : am_T 393 = (7, 4) := rfl
  have t2 : am_T 394 = (1, 6) := rfl
  have rt : am_ret mX3_init 393 (395 + 3 * 4) (2 + 3 * 4) (10 + 547 * 4) = True := eq_true ⟨rfl, rfl, rfl⟩
  have e4 : ((4 : Int32) ≤ nI 4) = True := eq_true (by decide)
  rw [eX3_init]
  simp (disch := (first | assumption | omega | decide)) only [sX3_init_0, sX3_init_1, sX3_init_4, sX3_init_5, sX3_init_6, sX3_init_9, sX3_init_12, sX3_init_13, sX3_init_15, sX3_init_17, sX3_init_20, sX3_init_21, sX3_init_22, sX3_init_25, sX3_init_26, sX3_init_27, sX3_init_30, sX3_init_31, sX3_init_33, sX3_init_34, sX3_init_37, sX3_init_38, sX3_init_41, sX3_init_42, sX3_init_45, sX3_init_46, sX3_init_49, sX3_init_50, sX3_init_53, sX3_init_56, kI_i, kL_l, kV_v, am_rv_s, am_kl_i, am_kl_r, am_kl_n, am_kl_l, true_and, and_true, and_self, true_or, or_true, implies_true, forall_const, not_true_eq_false, not_false_eq_true, false_implies, true_implies, if_true, if_false, Bool.true_eq_false, Bool.false_eq_true, mk4, mk6, obs, Nat.reduceAdd, l1]
  rw [sX3_init_32]
  simp (disch := (first | assumption | omega | decide)) only [sX3_init_0, sX3_init_1, sX3_init_4, sX3_init_5, sX3_init_6, sX3_init_9, sX3_init_12, sX3_init_13, sX3_init_15, sX3_init_17, sX3_init_20, sX3_init_21, sX3_init_22, sX3_init_25, sX3_init_26, sX3_init_27, sX3_init_30, sX3_init_31, sX3_init_33, sX3_init_34, sX3_init_37, sX3_init_38, sX3_init_41, sX3_init_42, sX3_init_45, sX3_init_46, sX3_init_49, sX3_init_50, sX3_init_53, sX3_init_56, kI_i, kL_l, kV_v, am_rv_s, am_kl_i, am_kl_r, am_kl_n, am_kl_l, true_and, and_true, and_self, true_or, or_true, implies_true, forall_const, not_true_eq_false, not_false_eq_true, false_implies, true_implies, if_true, if_false, Bool.true_eq_false, Bool.false_eq_true, e4, rt]
end
