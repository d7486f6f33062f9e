/-! what stands: the piece, what is known, who is in the room (bits), the time, the log (the latest first) -/
abbrev Lg : Type := List (Int32 × Int32)
abbrev Sg : Type := List Dd × (Nat → Int32) × Nat × Nat × Lg
def STs (M : am_M) (a : Nat) : Prop := a + 8 < 488 ∧ am_T a = (0, 8) ∧ DLs M (a + 1) ∧ am_T (a + 5) = (1, 4) ∧ am_T (a + 6) = (1, 4) ∧ am_T (a + 7) = (1, 60) ∧ am_T (a + 8) = (1, 60) ∧ gR M a 0 = some (a + 1) ∧ gR M a 1 = some (a + 5) ∧ gR M a 2 = some (a + 6) ∧ gR M a 6 = some (a + 7) ∧ gR M a 7 = some (a + 8)
def lgC (f g : Nat → Int32) (n : Nat) (lg : Lg) : Prop := lg.length = min n 60 ∧ ∀ i (h : i < lg.length), f ((n - 1 - i) % 60) = lg[i].1 ∧ g ((n - 1 - i) % 60) = lg[i].2
def StC (M : am_M) (a ap lim : Nat) (S : Sg) : Prop := STs M a ∧ LH M (a + 1) S.1 ∧ gI M a 3 = nI ap ∧ gI M a 4 = nI lim ∧ gI M a 5 = nI S.2.2.2.1 ∧ (∀ i, i < ap → gI M (a + 5) i = S.2.1 i ∧ gI M (a + 6) i = bz (S.2.2.1.testBit i)) ∧ (∃ n, gI M a 8 = nI n ∧ n ≤ S.2.2.2.1 ∧ lgC (gI M (a + 7)) (gI M (a + 8)) n S.2.2.2.2) ∧ ap ≤ 4 ∧ S.2.2.2.1 ≤ 9999
section
variable {M N : am_M} {a b ap lim k j n : Nat} {S : Sg} {X : Nat → Nat → Prop}
theorem gI_cpo {a0 sp dp : Nat} (h : b ≠ a) : gI (cpI M a0 sp a dp n) b k = gI M b k := by rw [gI_cpI, if_neg (fun (q : b = a ∧ _) => h q.1)]
theorem gI_cpi {a0 sp dp : Nat} (h1 : dp ≤ k) (h2 : k < dp + n) : gI (cpI M a0 sp a dp n) a k = gI M a0 (sp + (k - dp)) := by rw [gI_cpI, if_pos ⟨rfl, h1, h2⟩]
theorem gI_cpu {a0 sp dp : Nat} (h1 : k < dp ∨ dp + n ≤ k) : gI (cpI M a0 sp a dp n) a k = gI M a k := by rw [gI_cpI, if_neg (by omega)]
theorem STs_3 (h : WR M) : STs M 3 := ⟨by omega, rfl, ⟨by omega, rfl, rfl, rfl, rfl, h _ _ _ rfl, h _ _ _ rfl, h _ _ _ rfl⟩, rfl, rfl, rfl, rfl, h _ _ _ rfl, h _ _ _ rfl, h _ _ _ rfl, h _ _ _ rfl, h _ _ _ rfl⟩
theorem STs_12 (h : WR M) : STs M 12 := ⟨by omega, rfl, ⟨by omega, rfl, rfl, rfl, rfl, h _ _ _ rfl, h _ _ _ rfl, h _ _ _ rfl⟩, rfl, rfl, rfl, rfl, h _ _ _ rfl, h _ _ _ rfl, h _ _ _ rfl, h _ _ _ rfl, h _ _ _ rfl⟩
theorem STs_21 (h : WR M) : STs M 21 := ⟨by omega, rfl, ⟨by omega, rfl, rfl, rfl, rfl, h _ _ _ rfl, h _ _ _ rfl, h _ _ _ rfl⟩, rfl, rfl, rfl, rfl, h _ _ _ rfl, h _ _ _ rfl, h _ _ _ rfl, h _ _ _ rfl, h _ _ _ rfl⟩
set_option maxRecDepth 100000 in
theorem STs_tab : ∀ i, i < 40 → (am_T (32 + 9 * i) = (0, 8) ∧ am_T (32 + 9 * i + 1) = (0, 0) ∧ am_T (32 + 9 * i + 2) = (1, 16) ∧ am_T (32 + 9 * i + 3) = (1, 16) ∧ am_T (32 + 9 * i + 4) = (1, 16) ∧ am_T (32 + 9 * i + 5) = (1, 4) ∧ am_T (32 + 9 * i + 6) = (1, 4) ∧ am_T (32 + 9 * i + 7) = (1, 60) ∧ am_T (32 + 9 * i + 8) = (1, 60)) ∧ (rfT (32 + 9 * i + 1) 0 = some (32 + 9 * i + 2) ∧ rfT (32 + 9 * i + 1) 1 = some (32 + 9 * i + 3) ∧ rfT (32 + 9 * i + 1) 2 = some (32 + 9 * i + 4) ∧ rfT (32 + 9 * i) 0 = some (32 + 9 * i + 1) ∧ rfT (32 + 9 * i) 1 = some (32 + 9 * i + 5) ∧ rfT (32 + 9 * i) 2 = some (32 + 9 * i + 6) ∧ rfT (32 + 9 * i) 6 = some (32 + 9 * i + 7) ∧ rfT (32 + 9 * i) 7 = some (32 + 9 * i + 8)) := by decide +kernel
theorem STs_i {i : Nat} (h : WR M) (hi : i < 40) : STs M (32 + 9 * i) := by
  obtain ⟨⟨t0, t1, t2, t3, t4, t5, t6, t7, t8⟩, r1, r2, r3, r4, r5, r6, r7, r8⟩ := STs_tab i hi
  exact ⟨by omega, t0, ⟨by omega, t1, t2, t3, t4, h _ _ _ r1, h _ _ _ r2, h _ _ _ r3⟩, t5, t6, t7, t8, h _ _ _ r4, h _ _ _ r5, h _ _ _ r6, h _ _ _ r7, h _ _ _ r8⟩
theorem DLs_of (hR : ∀ c j, a ≤ c → c ≤ a + 3 → gR N c j = gR M c j) (h : DLs M a) : DLs N a := by
  obtain ⟨h1, h2, h3, h4, h5, h6, h7, h8⟩ := h
  exact ⟨h1, h2, h3, h4, h5, by rw [hR _ _ (by omega) (by omega)]; exact h6, by rw [hR _ _ (by omega) (by omega)]; exact h7, by rw [hR _ _ (by omega) (by omega)]; exact h8⟩
theorem LH_of {l : List Dd} (hI : ∀ c j, a ≤ c → c ≤ a + 3 → gI N c j = gI M c j) (hR : ∀ c j, a ≤ c → c ≤ a + 3 → gR N c j = gR M c j) (h : LH M a l) : LH N a l := by
  obtain ⟨⟨h1, h2, h3⟩, h4⟩ := h
  refine ⟨⟨DLs_of hR h1, by rw [hI _ _ (by omega) (by omega)]; exact h2, h3⟩, fun k t hk => ?_⟩
  rw [hI _ _ (by omega) (by omega), hI _ _ (by omega) (by omega), hI _ _ (by omega) (by omega)]
  exact h4 k t hk
theorem STs_of (hR : ∀ c j, a ≤ c → c ≤ a + 8 → gR N c j = gR M c j) (h : STs M a) : STs N a := by
  obtain ⟨h1, h2, h3, h4, h5, h6, h7, r1, r2, r3, r4, r5⟩ := h
  exact ⟨h1, h2, DLs_of (fun c j x y => hR c j (by omega) (by omega)) h3, h4, h5, h6, h7, by rw [hR _ _ (by omega) (by omega)]; exact r1, by rw [hR _ _ (by omega) (by omega)]; exact r2, by rw [hR _ _ (by omega) (by omega)]; exact r3, by rw [hR _ _ (by omega) (by omega)]; exact r4, by rw [hR _ _ (by omega) (by omega)]; exact r5⟩
theorem StC_of (hI : ∀ c j, a ≤ c → c ≤ a + 8 → gI N c j = gI M c j) (hR : ∀ c j, a ≤ c → c ≤ a + 8 → gR N c j = gR M c j) (h : StC M a ap lim S) : StC N a ap lim S := by
  obtain ⟨h1, h2, h3, h4, h5, h6, ⟨n, h7, h8, h9⟩, h10, h11⟩ := h
  refine ⟨STs_of hR h1, LH_of (fun c j x y => hI c j (by omega) (by omega)) (fun c j x y => hR c j (by omega) (by omega)) h2, by rw [hI _ _ (by omega) (by omega)]; exact h3, by rw [hI _ _ (by omega) (by omega)]; exact h4, by rw [hI _ _ (by omega) (by omega)]; exact h5, fun i hi => ?_, ⟨n, by rw [hI _ _ (by omega) (by omega)]; exact h7, h8, h9.1, fun i hi => ?_⟩, h10, h11⟩
  · rw [hI _ _ (by omega) (by omega), hI _ _ (by omega) (by omega)]; exact h6 i hi
  · rw [hI _ _ (by omega) (by omega), hI _ _ (by omega) (by omega)]; exact h9.2 i hi
theorem StC_Fw (hF : Fw X M N) (hX : ∀ c j, a ≤ c → c ≤ a + 8 → ¬ X c j) (h : StC M a ap lim S) : StC N a ap lim S := StC_of (fun c j x y => hF.I (hX c j x y)) (fun c j x y => hF.R (hX c j x y)) h
/-- the memory behind a copy of a state -/
def cpS (M : am_M) (a b n : Nat) : am_M := sI (cpI (cpI (sI (sI (sI (cpI (cpI (cpyM M (a + 1) (b + 1) n) (b + 5) 0 (a + 5) 0 4) (b + 6) 0 (a + 6) 0 4) a 3 (gI M b 3)) a 4 (gI M b 4)) a 5 (gI M b 5)) (b + 7) 0 (a + 7) 0 60) (b + 8) 0 (a + 8) 0 60) a 8 (gI M b 8)
theorem gR_cpy {c j : Nat} : gR (cpyM M a b n) c j = gR M c j := rfl
theorem gI_cpyo {c : Nat} (h : c < a ∨ a + 3 < c) : gI (cpyM M a b n) c j = gI M c j := by
  unfold cpyM
  rw [gI_cpo (by omega), gI_cpo (by omega), gI_cpo (by omega), gI_o (by omega)]
theorem c_copyState (ha : STs M a) (hb : StC M b ap lim S) (hd : a + 8 < b ∨ b + 8 < a) (hl : S.1.length ≤ 16) : ∃ M', (∀ d (Q : am_Q), am_big (d + 2) mX8_copyFrom [.ref a, .ref b] 488 M Q = Q none M') ∧ StC M' a ap lim S ∧ Fw (fun c _ => a ≤ c ∧ c ≤ a + 8) M M' := by
  obtain ⟨a1, a2, a3, a4, a5, a6, a7, p1, p2, p3, p4, p5⟩ := ha
  obtain ⟨⟨b1, b2, b3, b4, b5, b6, b7, q1, q2, q3, q4, q5⟩, h2, h3, h4, h5, h6, ⟨n, h7, h8, h9⟩, h10, h11⟩ := hb
  have oa := ob (a := a) (c := 8) (by omega) a2
  have ob' := ob (a := b) (c := 8) (by omega) b2
  have oa1 := ob (a := a + 1) (c := 0) (by omega) a3.2.1
  have z0 : (0 : Int32).toNatClampNeg = 0 := by decide
  have z4 : (4 : Int32).toNatClampNeg = 4 := by decide
  have z60 : (60 : Int32).toNatClampNeg = 60 := by decide
  have c5 : am_cpok 488 (b + 5) 0 (a + 5) 0 4 = True := eq_true ⟨by omega, by omega, by rw [b4], by rw [a4], by decide, by decide, by decide, by rw [b4]; decide, by rw [a4]; decide⟩
  have c6 : am_cpok 488 (b + 6) 0 (a + 6) 0 4 = True := eq_true ⟨by omega, by omega, by rw [b5], by rw [a5], by decide, by decide, by decide, by rw [b5]; decide, by rw [a5]; decide⟩
  have c7 : am_cpok 488 (b + 7) 0 (a + 7) 0 60 = True := eq_true ⟨by omega, by omega, by rw [b6], by rw [a6], by decide, by decide, by decide, by rw [b6]; decide, by rw [a6]; decide⟩
  have c8 : am_cpok 488 (b + 8) 0 (a + 8) 0 60 = True := eq_true ⟨by omega, by omega, by rw [b7], by rw [a7], by decide, by decide, by decide, by rw [b7]; decide, by rw [a7]; decide⟩
  have cp : ∀ d (Q : am_Q), am_big (d + 1) mX0_copyFrom [.ref (a + 1), .ref (b + 1)] 488 M Q = Q none (cpyM M (a + 1) (b + 1) S.1.length) := fun d Q => c_copyDL a3 h2.1 (by omega)
  refine ⟨cpS M a b S.1.length, fun d Q => ?_, ?_, ?_⟩
  · rw [eX8_copyFrom]
    unfold cpS
    simp (disch := (first | assumption | omega | decide)) only [sX8_copyFrom_0, sX8_copyFrom_1, sX8_copyFrom_4, sX8_copyFrom_5, sX8_copyFrom_8, sX8_copyFrom_11, sX8_copyFrom_12, sX8_copyFrom_15, sX8_copyFrom_16, sX8_copyFrom_17, sX8_copyFrom_20, sX8_copyFrom_21, sX8_copyFrom_22, sX8_copyFrom_25, sX8_copyFrom_26, sX8_copyFrom_29, sX8_copyFrom_30, sX8_copyFrom_31, sX8_copyFrom_34, sX8_copyFrom_35, sX8_copyFrom_36, sX8_copyFrom_39, sX8_copyFrom_40, sX8_copyFrom_41, sX8_copyFrom_44, sX8_copyFrom_47, sX8_copyFrom_48, sX8_copyFrom_49, sX8_copyFrom_52, sX8_copyFrom_55, sX8_copyFrom_56, sX8_copyFrom_57, sX8_copyFrom_60, sX8_copyFrom_63, sX8_copyFrom_64, sX8_copyFrom_67, sX8_copyFrom_68, sX8_copyFrom_69, sX8_copyFrom_72, sX8_copyFrom_73, sX8_copyFrom_75, sX8_copyFrom_78, sX8_copyFrom_79, sX8_copyFrom_82, sX8_copyFrom_83, sX8_copyFrom_84, sX8_copyFrom_87, sX8_copyFrom_88, sX8_copyFrom_90, sX8_copyFrom_93, sX8_copyFrom_94, sX8_copyFrom_95, sX8_copyFrom_98, sX8_copyFrom_101, kI_i, kL_l, kV_v, am_rv_s, am_kl_i, am_kl_r, am_kl_n, am_kl_l, true_and, and_true, and_self, true_or, or_true, implies_true, forall_const, not_true_eq_false, not_false_eq_true, false_implies, true_implies, if_true, if_false, Bool.true_eq_false, Bool.false_eq_true, oa, ob', oa1, p1, p2, p3, p4, p5, q1, q2, q3, q4, q5, cp, gR_cpy, gR_cpI, gR_sI, c5, c6, c7, c8, z0, z4, z60, gI_o, gI_cpo, gI_cpyo, gI_j]
  · refine ⟨⟨a1, a2, a3, a4, a5, a6, a7, p1, p2, p3, p4, p5⟩, ⟨⟨a3, ?_, hl⟩, fun k t hk => ?_⟩, ?_, ?_, ?_, fun i hi => ?_, ⟨n, ?_, h8, h9.1, fun i hi => ?_⟩, h10, h11⟩
    · unfold cpS cpyM
      simp (disch := (first | assumption | omega | decide)) only [gI_o, gI_cpo, gI_e]
    · have hk' := (List.getElem?_eq_some_iff.mp hk).1
      have := h2.2 k t hk
      unfold cpS cpyM
      simp (disch := (first | assumption | omega | decide)) only [gI_o, gI_cpo, gI_cpi, Nat.zero_add, Nat.sub_zero]
      exact this
    · unfold cpS; simp (disch := (first | assumption | omega | decide)) only [gI_o, gI_cpo, gI_j, gI_e]; exact h3
    · unfold cpS; simp (disch := (first | assumption | omega | decide)) only [gI_o, gI_cpo, gI_j, gI_e]; exact h4
    · unfold cpS; simp (disch := (first | assumption | omega | decide)) only [gI_o, gI_cpo, gI_j, gI_e]; exact h5
    · unfold cpS
      simp (disch := (first | assumption | omega | decide)) only [gI_o, gI_cpo, gI_cpi, gI_cpyo, Nat.zero_add, Nat.sub_zero]
      exact h6 i hi
    · unfold cpS; rw [gI_e]; exact h7
    · have hm : (n - 1 - i) % 60 < 60 := Nat.mod_lt _ (by omega)
      unfold cpS
      simp (disch := (first | assumption | omega | decide)) only [gI_o, gI_cpo, gI_cpi, gI_cpyo, Nat.zero_add, Nat.sub_zero]
      exact h9.2 i hi
  · unfold cpS cpyM
    refine (((((((((((Fw.s ?_).tr (Fw.c ?_)).tr (Fw.c ?_)).tr (Fw.c ?_)).tr (Fw.c ?_)).tr (Fw.c ?_)).tr (Fw.s ?_)).tr (Fw.s ?_)).tr (Fw.s ?_)).tr (Fw.c ?_)).tr (Fw.c ?_)).tr (Fw.s ?_) <;> first | omega | (intro k; omega)
/-- as StC, with the number of all that was logged -/
def StN (M : am_M) (a ap lim : Nat) (S : Sg) (n : Nat) : Prop := STs M a ∧ LH M (a + 1) S.1 ∧ gI M a 3 = nI ap ∧ gI M a 4 = nI lim ∧ gI M a 5 = nI S.2.2.2.1 ∧ (∀ i, i < ap → gI M (a + 5) i = S.2.1 i ∧ gI M (a + 6) i = bz (S.2.2.1.testBit i)) ∧ (gI M a 8 = nI n ∧ lgC (gI M (a + 7)) (gI M (a + 8)) n S.2.2.2.2) ∧ ap ≤ 4 ∧ n ≤ 9999
theorem StC.toN (h : StC M a ap lim S) : ∃ n, StN M a ap lim S n ∧ n ≤ S.2.2.2.1 := by
  obtain ⟨h1, h2, h3, h4, h5, h6, ⟨n, h7, h8, h9⟩, h10, h11⟩ := h
  exact ⟨n, ⟨h1, h2, h3, h4, h5, h6, ⟨h7, h9⟩, h10, by omega⟩, h8⟩
theorem StN.c (h : StN M a ap lim S n) (hn : n ≤ S.2.2.2.1) (ht : S.2.2.2.1 ≤ 9999) : StC M a ap lim S := by
  obtain ⟨h1, h2, h3, h4, h5, h6, ⟨h7, h9⟩, h10, h11⟩ := h
  exact ⟨h1, h2, h3, h4, h5, h6, ⟨n, h7, hn, h9⟩, h10, ht⟩
theorem StN_time {t : Nat} (h : StN M a ap lim S n) : StN (sI M a 5 (nI t)) a ap lim (S.1, S.2.1, S.2.2.1, t, S.2.2.2.2) n := by
  obtain ⟨h1, h2, h3, h4, h5, h6, ⟨h7, h9⟩, h10, h11⟩ := h
  refine ⟨h1, LH_of (M := M) (fun c j x y => gI_o (by omega)) (fun _ _ _ _ => rfl) h2, by rw [gI_j (by omega)]; exact h3, by rw [gI_j (by omega)]; exact h4, gI_e, fun i hi => ?_, ⟨by rw [gI_j (by omega)]; exact h7, h9.1, fun i hi => ?_⟩, h10, h11⟩
  · rw [gI_o (by omega), gI_o (by omega)]; exact h6 i hi
  · rw [gI_o (by omega), gI_o (by omega)]; exact h9.2 i hi
def lgA (lg : Lg) (x y : Int32) : Lg := ((x, y) :: lg).take 60
theorem lgA_s {lg : Lg} {x y : Int32} {i : Nat} (h : i < lg.length) (h' : i + 1 < (lgA lg x y).length) : (lgA lg x y)[i + 1] = lg[i] := by simp [lgA]
theorem lgA_0 {lg : Lg} {x y : Int32} (h' : 0 < (lgA lg x y).length) : (lgA lg x y)[0] = (x, y) := by simp [lgA]
theorem lgC_add {f g : Nat → Int32} {lg : Lg} {x y : Int32} (h : lgC f g n lg) : lgC (up f (n % 60) x) (up g (n % 60) y) (n + 1) (lgA lg x y) := by
  obtain ⟨h1, h2⟩ := h
  refine ⟨?_, fun i hi => ?_⟩
  · unfold lgA
    rw [List.length_take, List.length_cons, h1]
    omega
  · have hl : (lgA lg x y).length = min (n + 1) 60 := by unfold lgA; rw [List.length_take, List.length_cons, h1]; omega
    cases i with
    | zero =>
      rw [lgA_0]
      simp only [Nat.sub_zero, Nat.add_sub_cancel]
      exact ⟨up_e _ _ _, up_e _ _ _⟩
    | succ i =>
      have e1 : n + 1 - 1 - (i + 1) = n - 1 - i := by omega
      have hne : (n - 1 - i) % 60 ≠ n % 60 := by omega
      have hi' : i < lg.length := by omega
      rw [e1, up_n hne, up_n hne, lgA_s hi']
      exact h2 i hi'
variable {d : Nat} {Q : am_Q}
theorem c_hasApp {x : Int32} (h : STs M a) (h3 : gI M a 3 = nI ap) : am_big (d + 1) mX8_hasApprentice [.ref a, .int x] 488 M Q = Q (some (.int (bz (decide (0 ≤ x ∧ x < nI ap))))) M := by
  have oa := ob (a := a) (c := 8) (by have := h.1; omega) h.2.1
  rw [eX8_hasApprentice]
  simp only [sX8_hasApprentice_0, sX8_hasApprentice_1, sX8_hasApprentice_4, sX8_hasApprentice_5, sX8_hasApprentice_6, sX8_hasApprentice_9, sX8_hasApprentice_12, sX8_hasApprentice_13, sX8_hasApprentice_16, sX8_hasApprentice_17, kI_i, kL_l, kV_v, am_rv_s, am_kl_i, am_kl_r, am_kl_n, am_kl_l, true_and, and_true, and_self, true_or, or_true, implies_true, forall_const, not_true_eq_false, not_false_eq_true, false_implies, true_implies, if_true, if_false, Bool.true_eq_false, Bool.false_eq_true, oa, h3, ← Int32.not_lt]
  by_cases q1 : x < 0 <;> by_cases q2 : x < nI ap <;> simp [q1, q2, bz]
theorem app_x {x : Int32} (hap : ap ≤ 4) (h : 0 ≤ x ∧ x < nI ap) : ∃ i, i < ap ∧ x = nI i := by
  obtain ⟨j, hj, e⟩ := nI_of (Int32.not_lt.mpr h.1)
  refine ⟨j, ?_, e⟩
  have := h.2
  rw [e, nI_ltE hj (by omega)] at this
  exact this
theorem c_knows {x s : Int32} (h : STs M a) (h3 : gI M a 3 = nI ap) (hap : ap ≤ 4) : am_big (d + 2) mX8_knows [.ref a, .int x, .int s] 488 M Q = Q (some (.int (bz (decide (0 ≤ x ∧ x < nI ap) && decide (¬ (gI M (a + 5) x.toNatClampNeg >>> (s &&& 31)) &&& 1 = 0))))) M := by
  have oa := ob (a := a) (c := 8) (by have := h.1; omega) h.2.1
  obtain ⟨a1, a2, a3, a4, a5, a6, a7, p1, p2, p3, p4, p5⟩ := h
  rw [eX8_knows]
  by_cases c1 : 0 ≤ x ∧ x < nI ap
  · obtain ⟨i, hi, rfl⟩ := app_x hap c1
    have i1 := fun M => in1 (M := M) (k := i) (by omega : a + 5 < 488) a4 (by omega) (by omega)
    have ha := fun (Q : am_Q) => c_hasApp (d := d) (Q := Q) (x := nI i) ⟨a1, a2, a3, a4, a5, a6, a7, p1, p2, p3, p4, p5⟩ h3
    by_cases c2 : (gI M (a + 5) i >>> (s &&& 31)) &&& 1 = 0
    · simp (disch := (first | assumption | omega | decide)) only [sX8_knows_0, sX8_knows_1, sX8_knows_2, sX8_knows_5, sX8_knows_8, sX8_knows_9, sX8_knows_12, sX8_knows_13, sX8_knows_14, sX8_knows_15, sX8_knows_16, sX8_knows_17, sX8_knows_18, sX8_knows_21, sX8_knows_22, sX8_knows_25, sX8_knows_26, kI_i, kL_l, kV_v, am_rv_s, am_kl_i, am_kl_r, am_kl_n, am_kl_l, true_and, and_true, and_self, true_or, or_true, implies_true, forall_const, not_true_eq_false, not_false_eq_true, false_implies, true_implies, if_true, if_false, Bool.true_eq_false, Bool.false_eq_true, oa, ha, c1, decide_true, bz_t, i01, p2, i1, nI_clamp, c2, decide_false, bz_f, Bool.and_false]
    · simp (disch := (first | assumption | omega | decide)) only [sX8_knows_0, sX8_knows_1, sX8_knows_2, sX8_knows_5, sX8_knows_8, sX8_knows_9, sX8_knows_12, sX8_knows_13, sX8_knows_14, sX8_knows_15, sX8_knows_16, sX8_knows_17, sX8_knows_18, sX8_knows_21, sX8_knows_22, sX8_knows_25, sX8_knows_26, kI_i, kL_l, kV_v, am_rv_s, am_kl_i, am_kl_r, am_kl_n, am_kl_l, true_and, and_true, and_self, true_or, or_true, implies_true, forall_const, not_true_eq_false, not_false_eq_true, false_implies, true_implies, if_true, if_false, Bool.true_eq_false, Bool.false_eq_true, oa, ha, c1, decide_true, bz_t, i01, p2, i1, nI_clamp, c2, Bool.and_true, Bool.true_and]
  · have ha := fun (Q : am_Q) => c_hasApp (d := d) (Q := Q) (x := x) ⟨a1, a2, a3, a4, a5, a6, a7, p1, p2, p3, p4, p5⟩ h3
    simp (disch := (first | assumption | omega | decide)) only [sX8_knows_0, sX8_knows_1, sX8_knows_2, sX8_knows_5, sX8_knows_8, sX8_knows_9, sX8_knows_12, sX8_knows_13, sX8_knows_14, sX8_knows_15, sX8_knows_16, sX8_knows_17, sX8_knows_18, sX8_knows_21, sX8_knows_22, sX8_knows_25, sX8_knows_26, kI_i, kL_l, kV_v, am_rv_s, am_kl_i, am_kl_r, am_kl_n, am_kl_l, true_and, and_true, and_self, true_or, or_true, implies_true, forall_const, not_true_eq_false, not_false_eq_true, false_implies, true_implies, if_true, if_false, Bool.true_eq_false, Bool.false_eq_true, oa, ha, c1, decide_false, bz_f, Bool.false_and]
/-- what those of a set know together -/
def kt (kn : Nat → Int32) (some : Int32) : Nat → Int32
  | 0 => 0
  | k + 1 => kt kn some k ||| (if (some >>> (nI k &&& 31)) &&& 1 = 0 then 0 else kn k)
theorem kt_congr {f g : Nat → Int32} {x : Int32} : ∀ {n : Nat}, (∀ i, i < n → f i = g i) → kt f x n = kt g x n
  | 0, _ => rfl
  | n + 1, h => by unfold kt; rw [kt_congr (fun i hi => h i (by omega)), h n (by omega)]
theorem c_knownT {x : Int32} (h : STs M a) (h3 : gI M a 3 = nI ap) (hap : ap ≤ 4) : am_big (d + 1) mX8_knownTogether [.ref a, .int x] 488 M Q = Q (some (.int (kt (gI M (a + 5)) x ap))) M := by
  have oa := ob (a := a) (c := 8) (by have := h.1; omega) h.2.1
  obtain ⟨a1, a2, a3, a4, a5, a6, a7, p1, p2, p3, p4, p5⟩ := h
  rw [eX8_knownTogether]
  simp only [sX8_knownTogether_0, sX8_knownTogether_1, sX8_knownTogether_2, sX8_knownTogether_3, sX8_knownTogether_5, sX8_knownTogether_6, sX8_knownTogether_9, sX8_knownTogether_12, sX8_knownTogether_13, sX8_knownTogether_14, sX8_knownTogether_15, sX8_knownTogether_16, sX8_knownTogether_17, sX8_knownTogether_18, sX8_knownTogether_21, sX8_knownTogether_22, sX8_knownTogether_25, sX8_knownTogether_26, sX8_knownTogether_27, sX8_knownTogether_30, sX8_knownTogether_31, sX8_knownTogether_32, sX8_knownTogether_33, sX8_knownTogether_36, sX8_knownTogether_39, sX8_knownTogether_40, kI_i, kL_l, kV_v, am_rv_s, am_kl_i, am_kl_r, am_kl_n, am_kl_l, true_and, and_true, and_self, true_or, or_true, implies_true, forall_const, not_true_eq_false, not_false_eq_true, false_implies, true_implies, if_true, if_false, Bool.true_eq_false, Bool.false_eq_true]
  refine (loop0 (P := fun k => ok d mX8_knownTogether 488 Q 488 0 0 4 [some (.ref a), some (.int x), some (.int (kt (gI M (a + 5)) x k)), some (.int (nI k))] [] M) (n := ap) (fun k hk => ?_)).trans ?_
  · have i1 := fun M => in1 (M := M) (k := k) (by omega : a + 5 < 488) a4 (by omega) (by omega)
    have e0 : (nI ap ≤ nI k) = False := by rw [nI_leE (by omega) (by omega)]; exact eq_false (by omega)
    show ok d mX8_knownTogether 488 Q 488 0 0 4 _ [] M = ok d mX8_knownTogether 488 Q 488 0 0 4 [some (.ref a), some (.int x), some (.int (kt (gI M (a + 5)) x k ||| (if (x >>> (nI k &&& 31)) &&& 1 = 0 then 0 else gI M (a + 5) k))), some (.int (nI (k + 1)))] [] M
    rw [sX8_knownTogether_4]
    by_cases c : (x >>> (nI k &&& 31)) &&& 1 = 0
    · simp (disch := (first | assumption | omega | decide)) only [sX8_knownTogether_0, sX8_knownTogether_1, sX8_knownTogether_2, sX8_knownTogether_3, sX8_knownTogether_5, sX8_knownTogether_6, sX8_knownTogether_9, sX8_knownTogether_12, sX8_knownTogether_13, sX8_knownTogether_14, sX8_knownTogether_15, sX8_knownTogether_16, sX8_knownTogether_17, sX8_knownTogether_18, sX8_knownTogether_21, sX8_knownTogether_22, sX8_knownTogether_25, sX8_knownTogether_26, sX8_knownTogether_27, sX8_knownTogether_30, sX8_knownTogether_31, sX8_knownTogether_32, sX8_knownTogether_33, sX8_knownTogether_36, sX8_knownTogether_39, sX8_knownTogether_40, kI_i, kL_l, kV_v, am_rv_s, am_kl_i, am_kl_r, am_kl_n, am_kl_l, true_and, and_true, and_self, true_or, or_true, implies_true, forall_const, not_true_eq_false, not_false_eq_true, false_implies, true_implies, if_true, if_false, Bool.true_eq_false, Bool.false_eq_true, oa, h3, e0, c, nI_1]
    · simp (disch := (first | assumption | omega | decide)) only [sX8_knownTogether_0, sX8_knownTogether_1, sX8_knownTogether_2, sX8_knownTogether_3, sX8_knownTogether_5, sX8_knownTogether_6, sX8_knownTogether_9, sX8_knownTogether_12, sX8_knownTogether_13, sX8_knownTogether_14, sX8_knownTogether_15, sX8_knownTogether_16, sX8_knownTogether_17, sX8_knownTogether_18, sX8_knownTogether_21, sX8_knownTogether_22, sX8_knownTogether_25, sX8_knownTogether_26, sX8_knownTogether_27, sX8_knownTogether_30, sX8_knownTogether_31, sX8_knownTogether_32, sX8_knownTogether_33, sX8_knownTogether_36, sX8_knownTogether_39, sX8_knownTogether_40, kI_i, kL_l, kV_v, am_rv_s, am_kl_i, am_kl_r, am_kl_n, am_kl_l, true_and, and_true, and_self, true_or, or_true, implies_true, forall_const, not_true_eq_false, not_false_eq_true, false_implies, true_implies, if_true, if_false, Bool.true_eq_false, Bool.false_eq_true, oa, h3, e0, c, p2, i1, nI_clamp, nI_1]
  · show ok d mX8_knownTogether 488 Q 488 0 0 4 _ [] M = _
    rw [sX8_knownTogether_4]
    simp (disch := (first | assumption | omega | decide)) only [sX8_knownTogether_0, sX8_knownTogether_1, sX8_knownTogether_2, sX8_knownTogether_3, sX8_knownTogether_5, sX8_knownTogether_6, sX8_knownTogether_9, sX8_knownTogether_12, sX8_knownTogether_13, sX8_knownTogether_14, sX8_knownTogether_15, sX8_knownTogether_16, sX8_knownTogether_17, sX8_knownTogether_18, sX8_knownTogether_21, sX8_knownTogether_22, sX8_knownTogether_25, sX8_knownTogether_26, sX8_knownTogether_27, sX8_knownTogether_30, sX8_knownTogether_31, sX8_knownTogether_32, sX8_knownTogether_33, sX8_knownTogether_36, sX8_knownTogether_39, sX8_knownTogether_40, kI_i, kL_l, kV_v, am_rv_s, am_kl_i, am_kl_r, am_kl_n, am_kl_l, true_and, and_true, and_self, true_or, or_true, implies_true, forall_const, not_true_eq_false, not_false_eq_true, false_implies, true_implies, if_true, if_false, Bool.true_eq_false, Bool.false_eq_true, oa, h3, Int32.le_refl]
/-- the bits of those in the room -/
def tir (rm : Nat → Int32) : Nat → Int32
  | 0 => 0
  | k + 1 => tir rm k ||| (rm k <<< (nI k &&& 31))
theorem c_thoseIn (h : STs M a) (h3 : gI M a 3 = nI ap) (hap : ap ≤ 4) : am_big (d + 1) mX8_thoseInRoom [.ref a] 488 M Q = Q (some (.int (tir (gI M (a + 6)) ap))) M := by
  have oa := ob (a := a) (c := 8) (by have := h.1; omega) h.2.1
  obtain ⟨a1, a2, a3, a4, a5, a6, a7, p1, p2, p3, p4, p5⟩ := h
  rw [eX8_thoseInRoom]
  simp only [sX8_thoseInRoom_0, sX8_thoseInRoom_1, sX8_thoseInRoom_2, sX8_thoseInRoom_3, sX8_thoseInRoom_5, sX8_thoseInRoom_6, sX8_thoseInRoom_9, sX8_thoseInRoom_12, sX8_thoseInRoom_13, sX8_thoseInRoom_14, sX8_thoseInRoom_17, sX8_thoseInRoom_18, sX8_thoseInRoom_19, sX8_thoseInRoom_20, sX8_thoseInRoom_21, sX8_thoseInRoom_22, sX8_thoseInRoom_23, sX8_thoseInRoom_26, sX8_thoseInRoom_29, sX8_thoseInRoom_30, kI_i, kL_l, kV_v, am_rv_s, am_kl_i, am_kl_r, am_kl_n, am_kl_l, true_and, and_true, and_self, true_or, or_true, implies_true, forall_const, not_true_eq_false, not_false_eq_true, false_implies, true_implies, if_true, if_false, Bool.true_eq_false, Bool.false_eq_true]
  refine (loop0 (P := fun k => ok d mX8_thoseInRoom 488 Q 488 0 0 4 [some (.ref a), some (.int (tir (gI M (a + 6)) k)), some (.int (nI k))] [] M) (n := ap) (fun k hk => ?_)).trans ?_
  · have i1 := fun M => in1 (M := M) (k := k) (by omega : a + 6 < 488) a5 (by omega) (by omega)
    have e0 : (nI ap ≤ nI k) = False := by rw [nI_leE (by omega) (by omega)]; exact eq_false (by omega)
    show ok d mX8_thoseInRoom 488 Q 488 0 0 4 _ [] M = ok d mX8_thoseInRoom 488 Q 488 0 0 4 [some (.ref a), some (.int (tir (gI M (a + 6)) k ||| (gI M (a + 6) k <<< (nI k &&& 31)))), some (.int (nI (k + 1)))] [] M
    rw [sX8_thoseInRoom_4]
    simp (disch := (first | assumption | omega | decide)) only [sX8_thoseInRoom_0, sX8_thoseInRoom_1, sX8_thoseInRoom_2, sX8_thoseInRoom_3, sX8_thoseInRoom_5, sX8_thoseInRoom_6, sX8_thoseInRoom_9, sX8_thoseInRoom_12, sX8_thoseInRoom_13, sX8_thoseInRoom_14, sX8_thoseInRoom_17, sX8_thoseInRoom_18, sX8_thoseInRoom_19, sX8_thoseInRoom_20, sX8_thoseInRoom_21, sX8_thoseInRoom_22, sX8_thoseInRoom_23, sX8_thoseInRoom_26, sX8_thoseInRoom_29, sX8_thoseInRoom_30, kI_i, kL_l, kV_v, am_rv_s, am_kl_i, am_kl_r, am_kl_n, am_kl_l, true_and, and_true, and_self, true_or, or_true, implies_true, forall_const, not_true_eq_false, not_false_eq_true, false_implies, true_implies, if_true, if_false, Bool.true_eq_false, Bool.false_eq_true, oa, h3, e0, p3, i1, nI_clamp, nI_1]
  · show ok d mX8_thoseInRoom 488 Q 488 0 0 4 _ [] M = _
    rw [sX8_thoseInRoom_4]
    simp (disch := (first | assumption | omega | decide)) only [sX8_thoseInRoom_0, sX8_thoseInRoom_1, sX8_thoseInRoom_2, sX8_thoseInRoom_3, sX8_thoseInRoom_5, sX8_thoseInRoom_6, sX8_thoseInRoom_9, sX8_thoseInRoom_12, sX8_thoseInRoom_13, sX8_thoseInRoom_14, sX8_thoseInRoom_17, sX8_thoseInRoom_18, sX8_thoseInRoom_19, sX8_thoseInRoom_20, sX8_thoseInRoom_21, sX8_thoseInRoom_22, sX8_thoseInRoom_23, sX8_thoseInRoom_26, sX8_thoseInRoom_29, sX8_thoseInRoom_30, kI_i, kL_l, kV_v, am_rv_s, am_kl_i, am_kl_r, am_kl_n, am_kl_l, true_and, and_true, and_self, true_or, or_true, implies_true, forall_const, not_true_eq_false, not_false_eq_true, false_implies, true_implies, if_true, if_false, Bool.true_eq_false, Bool.false_eq_true, oa, h3, Int32.le_refl]
theorem c_note {x : Int32} (h : StN M a ap lim S n) : ∃ M', (∀ d (Q : am_Q), am_big (d + 1) mX8_note [.ref a, .int x] 488 M Q = Q none M') ∧ (n < 9999 → StN M' a ap lim (S.1, S.2.1, S.2.2.1, S.2.2.2.1, lgA S.2.2.2.2 x (nI S.1.length)) (n + 1)) ∧ Fw (fun c j => (c = a ∧ j = 8) ∨ c = a + 7 ∨ c = a + 8) M M' := by
  obtain ⟨⟨a1, a2, a3, a4, a5, a6, a7, p1, p2, p3, p4, p5⟩, h2, h3, h4, h5, h6, ⟨h7, h9⟩, h10, h11⟩ := h
  have oa := ob (a := a) (c := 8) (by omega) a2
  have oa1 := ob (a := a + 1) (c := 0) (by omega) a3.2.1
  have hm : n % 60 < 60 := Nat.mod_lt _ (by omega)
  have e60 : nI n - nI n / 60 * 60 = nI (n % 60) := by rw [show (60 : Int32) = nI 60 from rfl]; exact pk_rem (by omega) (by omega) (by omega)
  have n60 : ((60 : Int32) = 0) = False := eq_false (by decide)
  have i1 := iw (k := n % 60) (by omega : a + 7 < 488) a6 hm (by omega)
  have i2 := iw (k := n % 60) (by omega : a + 8 < 488) a7 hm (by omega)
  refine ⟨sI (sI (sI M (a + 7) (n % 60) x) (a + 8) (n % 60) (nI S.1.length)) a 8 (nI (n + 1)), fun d Q => ?_, fun hn => ?_, ?_⟩
  · rw [eX8_note]
    simp (disch := (first | assumption | omega | decide)) only [sX8_note_0, sX8_note_1, sX8_note_4, sX8_note_6, sX8_note_7, sX8_note_8, sX8_note_9, sX8_note_12, sX8_note_13, sX8_note_14, sX8_note_15, sX8_note_16, sX8_note_19, sX8_note_20, sX8_note_21, sX8_note_24, sX8_note_27, sX8_note_28, sX8_note_29, sX8_note_30, sX8_note_33, sX8_note_34, sX8_note_35, sX8_note_38, kI_i, kL_l, kV_v, am_rv_s, am_kl_i, am_kl_r, am_kl_n, am_kl_l, true_and, and_true, and_self, true_or, or_true, implies_true, forall_const, not_true_eq_false, not_false_eq_true, false_implies, true_implies, if_true, if_false, Bool.true_eq_false, Bool.false_eq_true, oa, oa1, h7, n60, e60, p1, p4, p5, gR_sI, i1, i2, nI_clamp, gI_o, h2.1.2.1, nI_1]
  · refine ⟨⟨a1, a2, a3, a4, a5, a6, a7, p1, p2, p3, p4, p5⟩, LH_of (M := M) (fun c j x y => by rw [gI_o (by omega), gI_o (by omega), gI_o (by omega)]) (fun _ _ _ _ => rfl) h2, ?_, ?_, ?_, fun i hi => ?_, ⟨gI_e, ?_⟩, h10, by omega⟩
    · rw [gI_j (by omega), gI_o (by omega), gI_o (by omega)]; exact h3
    · rw [gI_j (by omega), gI_o (by omega), gI_o (by omega)]; exact h4
    · rw [gI_j (by omega), gI_o (by omega), gI_o (by omega)]; exact h5
    · rw [gI_o (by omega), gI_o (by omega), gI_o (by omega), gI_o (by omega), gI_o (by omega), gI_o (by omega)]; exact h6 i hi
    · have := lgC_add (x := x) (y := nI S.1.length) h9
      have e1 : gI (sI (sI (sI M (a + 7) (n % 60) x) (a + 8) (n % 60) (nI S.1.length)) a 8 (nI (n + 1))) (a + 7) = up (gI M (a + 7)) (n % 60) x := funext fun k => by
        rw [gI_o (by omega), gI_o (by omega), gI_sI]
        unfold up
        by_cases hk : k = n % 60
        · rw [if_pos ⟨rfl, hk⟩, if_pos hk]
        · rw [if_neg (fun z => hk z.2), if_neg hk]
      have e2 : gI (sI (sI (sI M (a + 7) (n % 60) x) (a + 8) (n % 60) (nI S.1.length)) a 8 (nI (n + 1))) (a + 8) = up (gI M (a + 8)) (n % 60) (nI S.1.length) := funext fun k => by
        rw [gI_o (by omega), gI_sI]
        unfold up
        by_cases hk : k = n % 60
        · rw [if_pos ⟨rfl, hk⟩, if_pos hk]
        · rw [if_neg (fun z => hk z.2), if_neg hk, gI_o (by omega)]
      rw [e1, e2]
      exact this
  · exact ((Fw.s (Or.inr (Or.inl rfl))).tr (Fw.s (Or.inr (Or.inr rfl)))).tr (Fw.s (Or.inl ⟨rfl, rfl⟩))
end
