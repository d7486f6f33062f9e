/-! what costs seen tell -/
noncomputable def fcs (LL : List (List Nat)) (h so : Int32) (x : Nat) : Int32 := prc LL h so (nI 0) (nI (if tlx so = true then x else 0)) (nI 0) (nI 5) (nI 0)
def snD (L : List Sn) (i : Nat) : Sn := L.getD i (0, 0, false)
def fok (L : List Sn) (so p : Int32) (i : Nat) : Bool := !(decide ((snD L i).1 = so) && (decide ((snD L i).2.1 ≤ p) != (snD L i).2.2))
def ftA (L : List Sn) (so p : Int32) : Bool := alf (fok L so p) 0 L.length
/-- the x (bits) that fit, of those ahead of k -/
def ftN (L : List Sn) (so : Int32) (f : Nat → Int32) : Nat → Nat
  | 0 => 0
  | k + 1 => ftN L so f k ||| (if ftA L so (f k) = true then 2 ^ k else 0)
theorem ftN_lt {L : List Sn} {so : Int32} {f : Nat → Int32} : ∀ k, ftN L so f k < 2 ^ k
  | 0 => Nat.zero_lt_one
  | k + 1 => by
    have h := ftN_lt (L := L) (so := so) (f := f) k
    have p1 : 2 ^ k < 2 ^ (k + 1) := Nat.pow_lt_pow_right (by omega) (by omega)
    unfold ftN
    refine Nat.or_lt_two_pow (by omega) ?_
    split <;> omega
theorem ftN_c {L : List Sn} {so : Int32} {f g : Nat → Int32} : ∀ {k : Nat}, (∀ i, i < k → f i = g i) → ftN L so f k = ftN L so g k
  | 0, _ => rfl
  | k + 1, h => by
    unfold ftN
    rw [ftN_c (fun i hi => h i (by omega)), h k (by omega)]
def mtl (f : Nat → Int32) (bits : Nat) (v : Int32) : Nat → Int32
  | 0 => 0
  | k + 1 => if bits.testBit k = true then mtl f bits v k + (if v ≤ f k then 1 else -1) else mtl f bits v k
theorem mtl_bd {f : Nat → Int32} {bits : Nat} {v : Int32} : ∀ k : Nat, k ≤ 10 → -(k : Int) ≤ (mtl f bits v k).toInt ∧ (mtl f bits v k).toInt ≤ (k : Int)
  | 0, _ => by
    have e : (mtl f bits v 0).toInt = 0 := (by decide : (0 : Int32).toInt = 0)
    rw [e]; omega
  | k + 1, hk => by
    have h := mtl_bd (f := f) (bits := bits) (v := v) k (by omega)
    unfold mtl
    split
    · split
      · rw [Int32.toInt_add, show (1 : Int32).toInt = 1 from by decide, Int.bmod_eq_of_le (by omega) (by omega)]; omega
      · rw [Int32.toInt_add, show (-1 : Int32).toInt = -1 from by decide, Int.bmod_eq_of_le (by omega) (by omega)]; omega
    · omega
def ab32 (x : Int32) : Int32 := if 0 ≤ x then x else 0 - x
theorem ab32_bd {x : Int32} (h : -10 ≤ x.toInt ∧ x.toInt ≤ 10) : ab32 x < 11 := by
  unfold ab32
  rw [Int32.lt_iff_toInt_lt, show (11 : Int32).toInt = 11 from by decide]
  split
  · omega
  · rw [Int32.toInt_sub, show (0 : Int32).toInt = 0 from by decide, Int.bmod_eq_of_le (by omega) (by omega)]; omega
def bq (g : Nat → Int32) : Nat → Int32 × Int32
  | 0 => (-1, 11)
  | v + 1 => if g v < (bq g v).2 then (nI v, g v) else bq g v
noncomputable def argsA (ap : Nat) (LL : List (List Nat)) (h : Int32) (L : List Sn) (so : Int32) : Int32 := if opn ap = true ∧ 0 ≤ so ∧ so ≤ 4 then nI (ftN L so (fcs LL h so) 10) else -1
noncomputable def askV (LL : List (List Nat)) (h : Int32) (L : List Sn) (so : Int32) : Int32 := if ftN L so (fcs LL h so) 10 = 0 then -1 else (bq (fun v => ab32 (mtl (fcs LL h so) (ftN L so (fcs LL h so) 10) (nI v) 10)) 100).1
noncomputable def askA (ap : Nat) (LL : List (List Nat)) (h : Int32) (L : List Sn) (so : Int32) : Int32 := if opn ap = true ∧ 0 ≤ so ∧ so ≤ 4 then askV LL h L so else -1
def XFi (c j : Nat) : Prop := XPr c j ∨ c = 439
section
variable {M N : am_M} {ap lim : Nat} {S : Sg} {L : List Sn} {LL : List (List Nat)} {h : Int32} {X : Nat → Nat → Prop} {d : Nat} {Q : am_Q}
theorem snD_get {i : Nat} (hi : i < L.length) : snD L i = L[i] := by
  unfold snD
  rw [List.getD_eq_getElem?_getD, List.getElem?_eq_getElem hi]
  rfl
theorem SeC_Fw (hF : Fw X M N) (hX : ∀ c j, ((c = 435 ∧ j = 4) ∨ c = 436 ∨ c = 437 ∨ c = 438) → ¬ X c j) (hL : SeC M L) : SeC N L := by
  obtain ⟨h1, h2, h3⟩ := hL
  exact ⟨by rw [hF.I (hX _ _ (by omega))]; exact h1, h2, fun i hi => by rw [hF.I (hX _ _ (by omega)), hF.I (hX _ _ (by omega)), hF.I (hX _ _ (by omega))]; exact h3 i hi⟩
theorem c_tlx {k : Int32} : am_big (d + 1) mX0_tellsX [.int k] 488 M Q = Q (some (.int (bz (tlx k)))) M := c_tellsX
theorem c_fits {so p : Int32} (hW : WR M) (hL : SeC M L) : am_big (d + 1) mX7_fits [.ref 435, .int so, .int p] 488 M Q = Q (some (.int (bz (ftA L so p)))) M := by
  obtain ⟨h1, h2, h3⟩ := hL
  have key : ∀ j k, k + j = L.length → ok d mX7_fits 488 Q 488 0 0 2 [some (.ref 435), some (.int so), some (.int p), some (.int (nI k))] [] M = Q (some (.int (bz (alf (fok L so p) k j)))) M := by
    intro j
    induction j with
    | zero =>
      intro k hk
      have e0 : (nI L.length ≤ nI k) = True := by rw [nI_leE (by omega) (by omega)]; exact eq_true (by omega)
      rw [sX7_fits_2]
      simp (disch := (first | assumption | omega | decide)) only [sX7_fits_0, sX7_fits_1, sX7_fits_3, sX7_fits_4, sX7_fits_7, sX7_fits_10, sX7_fits_11, sX7_fits_14, sX7_fits_15, sX7_fits_16, sX7_fits_17, sX7_fits_20, sX7_fits_21, sX7_fits_22, sX7_fits_25, sX7_fits_26, sX7_fits_27, sX7_fits_30, sX7_fits_31, sX7_fits_34, sX7_fits_35, sX7_fits_36, sX7_fits_39, sX7_fits_40, sX7_fits_41, sX7_fits_44, sX7_fits_45, sX7_fits_46, sX7_fits_49, sX7_fits_52, sX7_fits_53, kI_i, kL_l, kV_v, am_rv_s, am_kl_i, am_kl_r, am_kl_n, am_kl_l, true_and, and_true, and_self, true_or, or_true, implies_true, forall_const, not_true_eq_false, not_false_eq_true, false_implies, true_implies, if_true, if_false, Bool.true_eq_false, Bool.false_eq_true, ob_435, h1, e0]
      rfl
    | succ j ih =>
      intro k hk
      have hkl : k < L.length := by omega
      have e0 : (nI L.length ≤ nI k) = False := by rw [nI_leE (by omega) (by omega)]; exact eq_false (by omega)
      obtain ⟨q1, q2, q3⟩ := h3 k hkl
      rw [← snD_get hkl] at q1 q2 q3
      have ck : (nI k).toNatClampNeg = k := nI_clamp (by omega)
      have i6 := in_436 (M := M) (k := k) (by omega)
      have i7 := in_437 (M := M) (k := k) (by omega)
      have i8 : (am_iw 488 438 2 (nI k) ∨ am_iw 488 438 3 (nI k)) = True := by rw [iw_438 (by omega)]; simp
      have ih' := ih (k + 1) (by omega)
      show _ = Q (some (.int (bz (fok L so p k && alf (fok L so p) (k + 1) j)))) M
      rw [sX7_fits_2]
      unfold fok
      generalize snD L k = t at *
      obtain ⟨t1, t2, t3⟩ := t
      simp only at q1 q2 q3
      by_cases c1 : t1 = so
      · subst c1
        by_cases c2 : t2 ≤ p
        · have c2' : ¬ p < t2 := Int32.not_lt.mpr c2
          cases t3
          · simp (disch := (first | assumption | omega | decide)) only [sX7_fits_0, sX7_fits_1, sX7_fits_3, sX7_fits_4, sX7_fits_7, sX7_fits_10, sX7_fits_11, sX7_fits_14, sX7_fits_15, sX7_fits_16, sX7_fits_17, sX7_fits_20, sX7_fits_21, sX7_fits_22, sX7_fits_25, sX7_fits_26, sX7_fits_27, sX7_fits_30, sX7_fits_31, sX7_fits_34, sX7_fits_35, sX7_fits_36, sX7_fits_39, sX7_fits_40, sX7_fits_41, sX7_fits_44, sX7_fits_45, sX7_fits_46, sX7_fits_49, sX7_fits_52, sX7_fits_53, kI_i, kL_l, kV_v, am_rv_s, am_kl_i, am_kl_r, am_kl_n, am_kl_l, true_and, and_true, and_self, true_or, or_true, implies_true, forall_const, not_true_eq_false, not_false_eq_true, false_implies, true_implies, if_true, if_false, Bool.true_eq_false, Bool.false_eq_true, ob_435, h1, e0, r_435_0, r_435_1, r_435_2, i6, i7, i8, ck, q1, q2, q3, c2, c2', bz_f, i01, decide_true]
            rfl
          · simp (disch := (first | assumption | omega | decide)) only [sX7_fits_0, sX7_fits_1, sX7_fits_3, sX7_fits_4, sX7_fits_7, sX7_fits_10, sX7_fits_11, sX7_fits_14, sX7_fits_15, sX7_fits_16, sX7_fits_17, sX7_fits_20, sX7_fits_21, sX7_fits_22, sX7_fits_25, sX7_fits_26, sX7_fits_27, sX7_fits_30, sX7_fits_31, sX7_fits_34, sX7_fits_35, sX7_fits_36, sX7_fits_39, sX7_fits_40, sX7_fits_41, sX7_fits_44, sX7_fits_45, sX7_fits_46, sX7_fits_49, sX7_fits_52, sX7_fits_53, kI_i, kL_l, kV_v, am_rv_s, am_kl_i, am_kl_r, am_kl_n, am_kl_l, true_and, and_true, and_self, true_or, or_true, implies_true, forall_const, not_true_eq_false, not_false_eq_true, false_implies, true_implies, if_true, if_false, Bool.true_eq_false, Bool.false_eq_true, ob_435, h1, e0, r_435_0, r_435_1, r_435_2, i6, i7, i8, ck, q1, q2, q3, c2, c2', bz_t, nI_1, ih', decide_true]
            rfl
        · have c2' : p < t2 := Int32.not_le.mp c2
          cases t3
          · simp (disch := (first | assumption | omega | decide)) only [sX7_fits_0, sX7_fits_1, sX7_fits_3, sX7_fits_4, sX7_fits_7, sX7_fits_10, sX7_fits_11, sX7_fits_14, sX7_fits_15, sX7_fits_16, sX7_fits_17, sX7_fits_20, sX7_fits_21, sX7_fits_22, sX7_fits_25, sX7_fits_26, sX7_fits_27, sX7_fits_30, sX7_fits_31, sX7_fits_34, sX7_fits_35, sX7_fits_36, sX7_fits_39, sX7_fits_40, sX7_fits_41, sX7_fits_44, sX7_fits_45, sX7_fits_46, sX7_fits_49, sX7_fits_52, sX7_fits_53, kI_i, kL_l, kV_v, am_rv_s, am_kl_i, am_kl_r, am_kl_n, am_kl_l, true_and, and_true, and_self, true_or, or_true, implies_true, forall_const, not_true_eq_false, not_false_eq_true, false_implies, true_implies, if_true, if_false, Bool.true_eq_false, Bool.false_eq_true, ob_435, h1, e0, r_435_0, r_435_1, r_435_2, i6, i7, i8, ck, q1, q2, q3, c2, c2', bz_f, nI_1, ih', decide_true, decide_false]
            rfl
          · simp (disch := (first | assumption | omega | decide)) only [sX7_fits_0, sX7_fits_1, sX7_fits_3, sX7_fits_4, sX7_fits_7, sX7_fits_10, sX7_fits_11, sX7_fits_14, sX7_fits_15, sX7_fits_16, sX7_fits_17, sX7_fits_20, sX7_fits_21, sX7_fits_22, sX7_fits_25, sX7_fits_26, sX7_fits_27, sX7_fits_30, sX7_fits_31, sX7_fits_34, sX7_fits_35, sX7_fits_36, sX7_fits_39, sX7_fits_40, sX7_fits_41, sX7_fits_44, sX7_fits_45, sX7_fits_46, sX7_fits_49, sX7_fits_52, sX7_fits_53, kI_i, kL_l, kV_v, am_rv_s, am_kl_i, am_kl_r, am_kl_n, am_kl_l, true_and, and_true, and_self, true_or, or_true, implies_true, forall_const, not_true_eq_false, not_false_eq_true, false_implies, true_implies, if_true, if_false, Bool.true_eq_false, Bool.false_eq_true, ob_435, h1, e0, r_435_0, r_435_1, r_435_2, i6, i7, i8, ck, q1, q2, q3, c2, c2', bz_t, i10, decide_true, decide_false]
            rfl
      · simp (disch := (first | assumption | omega | decide)) only [sX7_fits_0, sX7_fits_1, sX7_fits_3, sX7_fits_4, sX7_fits_7, sX7_fits_10, sX7_fits_11, sX7_fits_14, sX7_fits_15, sX7_fits_16, sX7_fits_17, sX7_fits_20, sX7_fits_21, sX7_fits_22, sX7_fits_25, sX7_fits_26, sX7_fits_27, sX7_fits_30, sX7_fits_31, sX7_fits_34, sX7_fits_35, sX7_fits_36, sX7_fits_39, sX7_fits_40, sX7_fits_41, sX7_fits_44, sX7_fits_45, sX7_fits_46, sX7_fits_49, sX7_fits_52, sX7_fits_53, kI_i, kL_l, kV_v, am_rv_s, am_kl_i, am_kl_r, am_kl_n, am_kl_l, true_and, and_true, and_self, true_or, or_true, implies_true, forall_const, not_true_eq_false, not_false_eq_true, false_implies, true_implies, if_true, if_false, Bool.true_eq_false, Bool.false_eq_true, ob_435, h1, e0, r_435_0, r_435_1, r_435_2, i6, i7, i8, ck, q1, c1, nI_1, ih', decide_false]
        rfl
  have k0 := key L.length 0 (by omega)
  rw [eX7_fits]
  simp (disch := (first | assumption | omega | decide)) only [sX7_fits_0, sX7_fits_1, sX7_fits_3, sX7_fits_4, sX7_fits_7, sX7_fits_10, sX7_fits_11, sX7_fits_14, sX7_fits_15, sX7_fits_16, sX7_fits_17, sX7_fits_20, sX7_fits_21, sX7_fits_22, sX7_fits_25, sX7_fits_26, sX7_fits_27, sX7_fits_30, sX7_fits_31, sX7_fits_34, sX7_fits_35, sX7_fits_36, sX7_fits_39, sX7_fits_40, sX7_fits_41, sX7_fits_44, sX7_fits_45, sX7_fits_46, sX7_fits_49, sX7_fits_52, sX7_fits_53, kI_i, kL_l, kV_v, am_rv_s, am_kl_i, am_kl_r, am_kl_n, am_kl_l, true_and, and_true, and_self, true_or, or_true, implies_true, forall_const, not_true_eq_false, not_false_eq_true, false_implies, true_implies, if_true, if_false, Bool.true_eq_false, Bool.false_eq_true]
  exact k0
theorem c_fitting {s : Nat} (hs : s < 5) (hW : WR M) (hL : SeC M L) (hb : LbC M LL h) : ∃ M', (∀ d (Q : am_Q), am_big (d + 5) mX7_fitting [.ref 435, .ref 392, .int (nI s)] 488 M Q = Q (some (.int (nI (ftN L (nI s) (fcs LL h (nI s)) 10)))) M') ∧ (∀ k, k < 10 → gI M' 439 k = fcs LL h (nI s) k) ∧ Fw XFi M M' := by
  have key : ∀ x, x ≤ 10 → ∃ M', (∀ d (Q : am_Q), ok (d + 4) mX7_fitting 488 Q 488 0 0 5 [some (.ref 435), some (.ref 392), some (.int (nI s)), some (.int (nI 0)), some (.int (nI 0))] [] M = ok (d + 4) mX7_fitting 488 Q 488 0 0 5 [some (.ref 435), some (.ref 392), some (.int (nI s)), some (.int (nI (ftN L (nI s) (fcs LL h (nI s)) x))), some (.int (nI x))] [] M') ∧ (∀ k, k < x → gI M' 439 k = fcs LL h (nI s) k) ∧ Fw XFi M M' := by
    intro x
    induction x with
    | zero => exact fun _ => ⟨M, fun d Q => rfl, fun k hk => by omega, Fw.rf⟩
    | succ x ih =>
      intro hx
      obtain ⟨M1, e1, c1, f1⟩ := ih (by omega)
      have hW1 := f1.2 hW
      have hL1 : SeC M1 L := SeC_Fw f1 (fun c j hc => by unfold XFi XPr; omega) hL
      have hb1 : LbC M1 LL h := LbC_Fw f1 (fun c j hc => by unfold XFi XPr; omega) hb
      obtain ⟨M2, e2, f2⟩ := c_priceOf (so := s) (pa := 0) (x := if tlx (nI s) = true then x else 0) (n := 0) (b := 5) (t := 0) hW1 hb1 ⟨by omega, by omega, by split <;> omega, by omega, by omega, by omega⟩
      have hW2 := f2.2 hW1
      have f2' : Fw XFi M1 M2 := f2.mo (fun c j z => Or.inl z)
      have f3 : Fw XFi M (sI M2 439 x (fcs LL h (nI s) x)) := (f1.tr f2').tr (Fw.s (Or.inr rfl))
      have hW3 := f3.2 hW
      have hL3 : SeC (sI M2 439 x (fcs LL h (nI s) x)) L := SeC_Fw f3 (fun c j hc => by unfold XFi XPr; omega) hL
      have ft := fun d (Q : am_Q) => c_fits (d := d) (Q := Q) (so := nI s) (p := fcs LL h (nI s) x) hW3 hL3
      have lt := ftN_lt (L := L) (so := nI s) (f := fcs LL h (nI s)) x
      refine ⟨sI M2 439 x (fcs LL h (nI s) x), fun d Q => ?_, fun k hk => ?_, f3⟩
      · rw [e1]
        have e0 : ((10 : Int32) ≤ nI x) = False := by rw [show (10 : Int32) = nI 10 from rfl, nI_leE (by omega) (by omega)]; exact eq_false (by omega)
        have cx : (nI x).toNatClampNeg = x := nI_clamp (by omega)
        have iw9 := iw_439 (k := x) (by omega)
        have i9 := fun (M : am_M) => in_439 (M := M) (k := x) (by omega)
        have sh := shl1 x (by omega)
        have ef : prc LL h (nI s) (nI 0) (nI (if tlx (nI s) = true then x else 0)) (nI 0) (nI 5) (nI 0) = fcs LL h (nI s) x := rfl
        have o0 : ∀ a : Nat, nI a ||| 0 = nI (a ||| 0) := fun a => nI_or a 0
        rw [sX7_fitting_5]
        show _ = ok (d + 4) mX7_fitting 488 Q 488 0 0 5 [some (.ref 435), some (.ref 392), some (.int (nI s)), some (.int (nI (ftN L (nI s) (fcs LL h (nI s)) x ||| (if ftA L (nI s) (fcs LL h (nI s) x) = true then 2 ^ x else 0)))), some (.int (nI (x + 1)))] [] _
        have e2' : ∀ (v : Int32), v = nI (if tlx (nI s) = true then x else 0) → ∀ d (Q : am_Q), am_big (d + 4) mX3_priceOf [.ref 392, .int (nI s), .int 0, .int v, .int 0, .int 5, .int 0] 488 M1 Q = Q (some (.int (fcs LL h (nI s) x))) M2 := fun v hv d Q => by rw [hv]; exact e2 d Q
        cases ct : tlx (nI s) with
        | true =>
          have e3 := e2' (nI x) (by rw [ct]; rfl)
          cases ca : ftA L (nI s) (fcs LL h (nI s) x) with
          | true => simp (disch := (first | assumption | omega | decide)) only [sX7_fitting_0, sX7_fitting_1, sX7_fitting_2, sX7_fitting_3, sX7_fitting_7, sX7_fitting_9, sX7_fitting_12, sX7_fitting_13, sX7_fitting_16, sX7_fitting_18, sX7_fitting_19, sX7_fitting_20, sX7_fitting_21, sX7_fitting_22, sX7_fitting_25, sX7_fitting_28, sX7_fitting_30, sX7_fitting_33, sX7_fitting_34, sX7_fitting_35, sX7_fitting_36, sX7_fitting_37, sX7_fitting_40, sX7_fitting_41, sX7_fitting_42, sX7_fitting_43, sX7_fitting_44, sX7_fitting_45, sX7_fitting_48, sX7_fitting_50, sX7_fitting_51, sX7_fitting_54, sX7_fitting_57, sX7_fitting_58, sX7_fitting_60, sX7_fitting_61, sX7_fitting_64, sX7_fitting_65, sX7_fitting_66, sX7_fitting_67, sX7_fitting_70, sX7_fitting_73, sX7_fitting_74, kI_i, kL_l, kV_v, am_rv_s, am_kl_i, am_kl_r, am_kl_n, am_kl_l, true_and, and_true, and_self, true_or, or_true, implies_true, forall_const, not_true_eq_false, not_false_eq_true, false_implies, true_implies, if_true, if_false, Bool.true_eq_false, Bool.false_eq_true, ob_435, ob_392, e0, r_435_3, c_tlx, ct, bz_t, i01, e3, iw9, cx, gI_e, i9, ft, ca, sh, nI_or, nI_1]
          | false => simp (disch := (first | assumption | omega | decide)) only [sX7_fitting_0, sX7_fitting_1, sX7_fitting_2, sX7_fitting_3, sX7_fitting_7, sX7_fitting_9, sX7_fitting_12, sX7_fitting_13, sX7_fitting_16, sX7_fitting_18, sX7_fitting_19, sX7_fitting_20, sX7_fitting_21, sX7_fitting_22, sX7_fitting_25, sX7_fitting_28, sX7_fitting_30, sX7_fitting_33, sX7_fitting_34, sX7_fitting_35, sX7_fitting_36, sX7_fitting_37, sX7_fitting_40, sX7_fitting_41, sX7_fitting_42, sX7_fitting_43, sX7_fitting_44, sX7_fitting_45, sX7_fitting_48, sX7_fitting_50, sX7_fitting_51, sX7_fitting_54, sX7_fitting_57, sX7_fitting_58, sX7_fitting_60, sX7_fitting_61, sX7_fitting_64, sX7_fitting_65, sX7_fitting_66, sX7_fitting_67, sX7_fitting_70, sX7_fitting_73, sX7_fitting_74, kI_i, kL_l, kV_v, am_rv_s, am_kl_i, am_kl_r, am_kl_n, am_kl_l, true_and, and_true, and_self, true_or, or_true, implies_true, forall_const, not_true_eq_false, not_false_eq_true, false_implies, true_implies, if_true, if_false, Bool.true_eq_false, Bool.false_eq_true, ob_435, ob_392, e0, r_435_3, c_tlx, ct, bz_t, bz_f, i01, e3, iw9, cx, gI_e, i9, ft, ca, o0, nI_1]
        | false =>
          have e3 := e2' 0 (by rw [ct]; rfl)
          cases ca : ftA L (nI s) (fcs LL h (nI s) x) with
          | true => simp (disch := (first | assumption | omega | decide)) only [sX7_fitting_0, sX7_fitting_1, sX7_fitting_2, sX7_fitting_3, sX7_fitting_7, sX7_fitting_9, sX7_fitting_12, sX7_fitting_13, sX7_fitting_16, sX7_fitting_18, sX7_fitting_19, sX7_fitting_20, sX7_fitting_21, sX7_fitting_22, sX7_fitting_25, sX7_fitting_28, sX7_fitting_30, sX7_fitting_33, sX7_fitting_34, sX7_fitting_35, sX7_fitting_36, sX7_fitting_37, sX7_fitting_40, sX7_fitting_41, sX7_fitting_42, sX7_fitting_43, sX7_fitting_44, sX7_fitting_45, sX7_fitting_48, sX7_fitting_50, sX7_fitting_51, sX7_fitting_54, sX7_fitting_57, sX7_fitting_58, sX7_fitting_60, sX7_fitting_61, sX7_fitting_64, sX7_fitting_65, sX7_fitting_66, sX7_fitting_67, sX7_fitting_70, sX7_fitting_73, sX7_fitting_74, kI_i, kL_l, kV_v, am_rv_s, am_kl_i, am_kl_r, am_kl_n, am_kl_l, true_and, and_true, and_self, true_or, or_true, implies_true, forall_const, not_true_eq_false, not_false_eq_true, false_implies, true_implies, if_true, if_false, Bool.true_eq_false, Bool.false_eq_true, ob_435, ob_392, e0, r_435_3, c_tlx, ct, bz_t, bz_f, i01, e3, iw9, cx, gI_e, i9, ft, ca, sh, nI_or, nI_1]
          | false => simp (disch := (first | assumption | omega | decide)) only [sX7_fitting_0, sX7_fitting_1, sX7_fitting_2, sX7_fitting_3, sX7_fitting_7, sX7_fitting_9, sX7_fitting_12, sX7_fitting_13, sX7_fitting_16, sX7_fitting_18, sX7_fitting_19, sX7_fitting_20, sX7_fitting_21, sX7_fitting_22, sX7_fitting_25, sX7_fitting_28, sX7_fitting_30, sX7_fitting_33, sX7_fitting_34, sX7_fitting_35, sX7_fitting_36, sX7_fitting_37, sX7_fitting_40, sX7_fitting_41, sX7_fitting_42, sX7_fitting_43, sX7_fitting_44, sX7_fitting_45, sX7_fitting_48, sX7_fitting_50, sX7_fitting_51, sX7_fitting_54, sX7_fitting_57, sX7_fitting_58, sX7_fitting_60, sX7_fitting_61, sX7_fitting_64, sX7_fitting_65, sX7_fitting_66, sX7_fitting_67, sX7_fitting_70, sX7_fitting_73, sX7_fitting_74, kI_i, kL_l, kV_v, am_rv_s, am_kl_i, am_kl_r, am_kl_n, am_kl_l, true_and, and_true, and_self, true_or, or_true, implies_true, forall_const, not_true_eq_false, not_false_eq_true, false_implies, true_implies, if_true, if_false, Bool.true_eq_false, Bool.false_eq_true, ob_435, ob_392, e0, r_435_3, c_tlx, ct, bz_t, bz_f, i01, e3, iw9, cx, gI_e, i9, ft, ca, o0, nI_1]
      · by_cases ek : k = x
        · subst ek; exact gI_e
        · rw [gI_j ek, f2.I (by unfold XPr; omega)]
          exact c1 k (by omega)
  obtain ⟨M', e, c, f⟩ := key 10 (by omega)
  refine ⟨M', fun d Q => ?_, c, f⟩
  have e' : ok (d + 4) mX7_fitting 488 Q 488 0 0 5 [some (.ref 435), some (.ref 392), some (.int (nI s)), some (.int 0), some (.int 0)] [] M = _ := e d Q
  have e0 : ((10 : Int32) ≤ nI 10) = True := eq_true (by decide)
  rw [eX7_fitting]
  simp (disch := (first | assumption | omega | decide)) only [sX7_fitting_0, sX7_fitting_1, sX7_fitting_2, sX7_fitting_3, sX7_fitting_7, sX7_fitting_9, sX7_fitting_12, sX7_fitting_13, sX7_fitting_16, sX7_fitting_18, sX7_fitting_19, sX7_fitting_20, sX7_fitting_21, sX7_fitting_22, sX7_fitting_25, sX7_fitting_28, sX7_fitting_30, sX7_fitting_33, sX7_fitting_34, sX7_fitting_35, sX7_fitting_36, sX7_fitting_37, sX7_fitting_40, sX7_fitting_41, sX7_fitting_42, sX7_fitting_43, sX7_fitting_44, sX7_fitting_45, sX7_fitting_48, sX7_fitting_50, sX7_fitting_51, sX7_fitting_54, sX7_fitting_57, sX7_fitting_58, sX7_fitting_60, sX7_fitting_61, sX7_fitting_64, sX7_fitting_65, sX7_fitting_66, sX7_fitting_67, sX7_fitting_70, sX7_fitting_73, sX7_fitting_74, kI_i, kL_l, kV_v, am_rv_s, am_kl_i, am_kl_r, am_kl_n, am_kl_l, true_and, and_true, and_self, true_or, or_true, implies_true, forall_const, not_true_eq_false, not_false_eq_true, false_implies, true_implies, if_true, if_false, Bool.true_eq_false, Bool.false_eq_true, e']
  rw [sX7_fitting_5]
  simp (disch := (first | assumption | omega | decide)) only [sX7_fitting_0, sX7_fitting_1, sX7_fitting_2, sX7_fitting_3, sX7_fitting_7, sX7_fitting_9, sX7_fitting_12, sX7_fitting_13, sX7_fitting_16, sX7_fitting_18, sX7_fitting_19, sX7_fitting_20, sX7_fitting_21, sX7_fitting_22, sX7_fitting_25, sX7_fitting_28, sX7_fitting_30, sX7_fitting_33, sX7_fitting_34, sX7_fitting_35, sX7_fitting_36, sX7_fitting_37, sX7_fitting_40, sX7_fitting_41, sX7_fitting_42, sX7_fitting_43, sX7_fitting_44, sX7_fitting_45, sX7_fitting_48, sX7_fitting_50, sX7_fitting_51, sX7_fitting_54, sX7_fitting_57, sX7_fitting_58, sX7_fitting_60, sX7_fitting_61, sX7_fitting_64, sX7_fitting_65, sX7_fitting_66, sX7_fitting_67, sX7_fitting_70, sX7_fitting_73, sX7_fitting_74, kI_i, kL_l, kV_v, am_rv_s, am_kl_i, am_kl_r, am_kl_n, am_kl_l, true_and, and_true, and_self, true_or, or_true, implies_true, forall_const, not_true_eq_false, not_false_eq_true, false_implies, true_implies, if_true, if_false, Bool.true_eq_false, Bool.false_eq_true, e0]
theorem c_mtl {f : Nat → Int32} {bits : Nat} {v : Int32} (hW : WR M) (hf : ∀ k, k < 10 → gI M 439 k = f k) (hb : bits < 2 ^ 10) : am_big (d + 1) mX7_moreThanLess [.ref 435, .int (nI bits), .int v] 488 M Q = Q (some (.int (mtl f bits v 10))) M := by
  have l0 := loop0 (P := fun k => ok d mX7_moreThanLess 488 Q 488 0 0 5 [some (.ref 435), some (.int (nI bits)), some (.int v), some (.int (mtl f bits v k)), some (.int (nI k))] [] M) (n := 10) (fun k hk => by
    have e0 : ((10 : Int32) ≤ nI k) = False := by rw [show (10 : Int32) = nI 10 from rfl, nI_leE (by omega) (by omega)]; exact eq_false (by omega)
    have nb := nI_bit (b := bits) (e := k) (by omega) (by omega)
    have ck : (nI k).toNatClampNeg = k := nI_clamp (by omega)
    have i9 := in_439 (M := M) (k := k) (by omega)
    have hk' := hf k hk
    show ok d mX7_moreThanLess 488 Q 488 0 0 5 _ [] _ = ok d mX7_moreThanLess 488 Q 488 0 0 5 [some (.ref 435), some (.int (nI bits)), some (.int v), some (.int (if bits.testBit k = true then mtl f bits v k + (if v ≤ f k then 1 else -1) else mtl f bits v k)), some (.int (nI (k + 1)))] [] _
    rw [sX7_moreThanLess_5]
    cases cb : bits.testBit k with
    | true =>
      rw [cb] at nb
      by_cases c : v ≤ f k
      · have c' : ¬ f k < v := Int32.not_lt.mpr c
        simp (disch := (first | assumption | omega | decide)) only [sX7_moreThanLess_0, sX7_moreThanLess_1, sX7_moreThanLess_2, sX7_moreThanLess_3, sX7_moreThanLess_7, sX7_moreThanLess_9, sX7_moreThanLess_12, sX7_moreThanLess_13, sX7_moreThanLess_15, sX7_moreThanLess_16, sX7_moreThanLess_17, sX7_moreThanLess_18, sX7_moreThanLess_21, sX7_moreThanLess_22, sX7_moreThanLess_23, sX7_moreThanLess_26, sX7_moreThanLess_28, sX7_moreThanLess_29, sX7_moreThanLess_30, sX7_moreThanLess_33, sX7_moreThanLess_34, sX7_moreThanLess_37, sX7_moreThanLess_38, sX7_moreThanLess_39, sX7_moreThanLess_40, sX7_moreThanLess_43, sX7_moreThanLess_46, sX7_moreThanLess_47, kI_i, kL_l, kV_v, am_rv_s, am_kl_i, am_kl_r, am_kl_n, am_kl_l, true_and, and_true, and_self, true_or, or_true, implies_true, forall_const, not_true_eq_false, not_false_eq_true, false_implies, true_implies, if_true, if_false, Bool.true_eq_false, Bool.false_eq_true, ob_435, e0, nb, bz_t, i01, r_435_3, i9, ck, hk', c, c', nI_1]
      · have c' : f k < v := Int32.not_le.mp c
        simp (disch := (first | assumption | omega | decide)) only [sX7_moreThanLess_0, sX7_moreThanLess_1, sX7_moreThanLess_2, sX7_moreThanLess_3, sX7_moreThanLess_7, sX7_moreThanLess_9, sX7_moreThanLess_12, sX7_moreThanLess_13, sX7_moreThanLess_15, sX7_moreThanLess_16, sX7_moreThanLess_17, sX7_moreThanLess_18, sX7_moreThanLess_21, sX7_moreThanLess_22, sX7_moreThanLess_23, sX7_moreThanLess_26, sX7_moreThanLess_28, sX7_moreThanLess_29, sX7_moreThanLess_30, sX7_moreThanLess_33, sX7_moreThanLess_34, sX7_moreThanLess_37, sX7_moreThanLess_38, sX7_moreThanLess_39, sX7_moreThanLess_40, sX7_moreThanLess_43, sX7_moreThanLess_46, sX7_moreThanLess_47, kI_i, kL_l, kV_v, am_rv_s, am_kl_i, am_kl_r, am_kl_n, am_kl_l, true_and, and_true, and_self, true_or, or_true, implies_true, forall_const, not_true_eq_false, not_false_eq_true, false_implies, true_implies, if_true, if_false, Bool.true_eq_false, Bool.false_eq_true, ob_435, e0, nb, bz_t, i01, r_435_3, i9, ck, hk', c, c', nI_1]
    | false =>
      rw [cb] at nb
      simp (disch := (first | assumption | omega | decide)) only [sX7_moreThanLess_0, sX7_moreThanLess_1, sX7_moreThanLess_2, sX7_moreThanLess_3, sX7_moreThanLess_7, sX7_moreThanLess_9, sX7_moreThanLess_12, sX7_moreThanLess_13, sX7_moreThanLess_15, sX7_moreThanLess_16, sX7_moreThanLess_17, sX7_moreThanLess_18, sX7_moreThanLess_21, sX7_moreThanLess_22, sX7_moreThanLess_23, sX7_moreThanLess_26, sX7_moreThanLess_28, sX7_moreThanLess_29, sX7_moreThanLess_30, sX7_moreThanLess_33, sX7_moreThanLess_34, sX7_moreThanLess_37, sX7_moreThanLess_38, sX7_moreThanLess_39, sX7_moreThanLess_40, sX7_moreThanLess_43, sX7_moreThanLess_46, sX7_moreThanLess_47, kI_i, kL_l, kV_v, am_rv_s, am_kl_i, am_kl_r, am_kl_n, am_kl_l, true_and, and_true, and_self, true_or, or_true, implies_true, forall_const, not_true_eq_false, not_false_eq_true, false_implies, true_implies, if_true, if_false, Bool.true_eq_false, Bool.false_eq_true, ob_435, e0, nb, bz_f, nI_1])
  have l1 : ok d mX7_moreThanLess 488 Q 488 0 0 5 [some (.ref 435), some (.int (nI bits)), some (.int v), some (.int 0), some (.int 0)] [] M = _ := l0
  have e0 : ((10 : Int32) ≤ nI 10) = True := eq_true (by decide)
  rw [eX7_moreThanLess]
  simp (disch := (first | assumption | omega | decide)) only [sX7_moreThanLess_0, sX7_moreThanLess_1, sX7_moreThanLess_2, sX7_moreThanLess_3, sX7_moreThanLess_7, sX7_moreThanLess_9, sX7_moreThanLess_12, sX7_moreThanLess_13, sX7_moreThanLess_15, sX7_moreThanLess_16, sX7_moreThanLess_17, sX7_moreThanLess_18, sX7_moreThanLess_21, sX7_moreThanLess_22, sX7_moreThanLess_23, sX7_moreThanLess_26, sX7_moreThanLess_28, sX7_moreThanLess_29, sX7_moreThanLess_30, sX7_moreThanLess_33, sX7_moreThanLess_34, sX7_moreThanLess_37, sX7_moreThanLess_38, sX7_moreThanLess_39, sX7_moreThanLess_40, sX7_moreThanLess_43, sX7_moreThanLess_46, sX7_moreThanLess_47, kI_i, kL_l, kV_v, am_rv_s, am_kl_i, am_kl_r, am_kl_n, am_kl_l, true_and, and_true, and_self, true_or, or_true, implies_true, forall_const, not_true_eq_false, not_false_eq_true, false_implies, true_implies, if_true, if_false, Bool.true_eq_false, Bool.false_eq_true, l1]
  rw [sX7_moreThanLess_5]
  simp (disch := (first | assumption | omega | decide)) only [sX7_moreThanLess_0, sX7_moreThanLess_1, sX7_moreThanLess_2, sX7_moreThanLess_3, sX7_moreThanLess_7, sX7_moreThanLess_9, sX7_moreThanLess_12, sX7_moreThanLess_13, sX7_moreThanLess_15, sX7_moreThanLess_16, sX7_moreThanLess_17, sX7_moreThanLess_18, sX7_moreThanLess_21, sX7_moreThanLess_22, sX7_moreThanLess_23, sX7_moreThanLess_26, sX7_moreThanLess_28, sX7_moreThanLess_29, sX7_moreThanLess_30, sX7_moreThanLess_33, sX7_moreThanLess_34, sX7_moreThanLess_37, sX7_moreThanLess_38, sX7_moreThanLess_39, sX7_moreThanLess_40, sX7_moreThanLess_43, sX7_moreThanLess_46, sX7_moreThanLess_47, kI_i, kL_l, kV_v, am_rv_s, am_kl_i, am_kl_r, am_kl_n, am_kl_l, true_and, and_true, and_self, true_or, or_true, implies_true, forall_const, not_true_eq_false, not_false_eq_true, false_implies, true_implies, if_true, if_false, Bool.true_eq_false, Bool.false_eq_true, e0]
theorem c_best {s : Nat} (hs : s < 5) (hW : WR M) (hL : SeC M L) (hb : LbC M LL h) : ∃ M', (∀ d (Q : am_Q), am_big (d + 6) mX7_bestQuestion [.ref 435, .ref 392, .int (nI s)] 488 M Q = Q (some (.int (askV LL h L (nI s)))) M') ∧ Fw XFi M M' := by
  obtain ⟨M', e, c, f⟩ := c_fitting hs hW hL hb
  have hW1 := f.2 hW
  refine ⟨M', fun d Q => ?_, f⟩
  unfold askV
  have lt := ftN_lt (L := L) (so := nI s) (f := fcs LL h (nI s)) 10
  generalize hB : ftN L (nI s) (fcs LL h (nI s)) 10 = B at *
  rw [eX7_bestQuestion]
  by_cases z : B = 0
  · subst z
    rw [if_pos rfl]
    have e0 : ((99 : Int32) < 0) = False := eq_false (by decide)
    have n0 : nI 0 = 0 := rfl
    simp (disch := (first | assumption | omega | decide)) only [sX7_bestQuestion_0, sX7_bestQuestion_1, sX7_bestQuestion_2, sX7_bestQuestion_3, sX7_bestQuestion_6, sX7_bestQuestion_7, sX7_bestQuestion_8, sX7_bestQuestion_10, sX7_bestQuestion_12, sX7_bestQuestion_14, sX7_bestQuestion_15, sX7_bestQuestion_19, sX7_bestQuestion_21, sX7_bestQuestion_24, sX7_bestQuestion_25, sX7_bestQuestion_28, sX7_bestQuestion_29, sX7_bestQuestion_30, sX7_bestQuestion_32, sX7_bestQuestion_35, sX7_bestQuestion_38, sX7_bestQuestion_40, sX7_bestQuestion_42, sX7_bestQuestion_44, sX7_bestQuestion_47, sX7_bestQuestion_49, sX7_bestQuestion_51, sX7_bestQuestion_53, sX7_bestQuestion_55, sX7_bestQuestion_58, sX7_bestQuestion_61, sX7_bestQuestion_63, kI_i, kL_l, kV_v, am_rv_s, am_kl_i, am_kl_r, am_kl_n, am_kl_l, true_and, and_true, and_self, true_or, or_true, implies_true, forall_const, not_true_eq_false, not_false_eq_true, false_implies, true_implies, if_true, if_false, Bool.true_eq_false, Bool.false_eq_true, ob_435, e, n0]
    rw [sX7_bestQuestion_17]
    simp (disch := (first | assumption | omega | decide)) only [sX7_bestQuestion_0, sX7_bestQuestion_1, sX7_bestQuestion_2, sX7_bestQuestion_3, sX7_bestQuestion_6, sX7_bestQuestion_7, sX7_bestQuestion_8, sX7_bestQuestion_10, sX7_bestQuestion_12, sX7_bestQuestion_14, sX7_bestQuestion_15, sX7_bestQuestion_19, sX7_bestQuestion_21, sX7_bestQuestion_24, sX7_bestQuestion_25, sX7_bestQuestion_28, sX7_bestQuestion_29, sX7_bestQuestion_30, sX7_bestQuestion_32, sX7_bestQuestion_35, sX7_bestQuestion_38, sX7_bestQuestion_40, sX7_bestQuestion_42, sX7_bestQuestion_44, sX7_bestQuestion_47, sX7_bestQuestion_49, sX7_bestQuestion_51, sX7_bestQuestion_53, sX7_bestQuestion_55, sX7_bestQuestion_58, sX7_bestQuestion_61, sX7_bestQuestion_63, kI_i, kL_l, kV_v, am_rv_s, am_kl_i, am_kl_r, am_kl_n, am_kl_l, true_and, and_true, and_self, true_or, or_true, implies_true, forall_const, not_true_eq_false, not_false_eq_true, false_implies, true_implies, if_true, if_false, Bool.true_eq_false, Bool.false_eq_true, e0]
  · rw [if_neg z]
    have nz : (nI B = 0) = False := by rw [nI_z (by omega)]; exact eq_false z
    have key : ∀ v, v ≤ 100 → ∀ l7 : Option Value, ∃ l7', ok (d + 5) mX7_bestQuestion 488 Q 488 0 0 17 [some (.ref 435), some (.ref 392), some (.int (nI s)), some (.int (nI B)), some (.int (-1)), some (.int 11), some (.int 0), l7] [] M' = ok (d + 5) mX7_bestQuestion 488 Q 488 0 0 17 [some (.ref 435), some (.ref 392), some (.int (nI s)), some (.int (nI B)), some (.int (bq (fun v => ab32 (mtl (fcs LL h (nI s)) B (nI v) 10)) v).1), some (.int (bq (fun v => ab32 (mtl (fcs LL h (nI s)) B (nI v) 10)) v).2), some (.int (nI v)), l7'] [] M' := by
      intro v
      induction v with
      | zero => exact fun _ l7 => ⟨l7, rfl⟩
      | succ v ih =>
        intro hv l7
        obtain ⟨l7', ei⟩ := ih (by omega) l7
        have e0 : ((99 : Int32) < nI v) = False := by rw [show (99 : Int32) = nI 99 from rfl, nI_ltE (by omega) (by omega)]; exact eq_false (by omega)
        have mt := fun d (Q : am_Q) => c_mtl (d := d) (Q := Q) (v := nI v) (bits := B) hW1 c lt
        have ea : ∀ x : Int32, (if 0 ≤ x then x else 0 - x) = ab32 x := fun x => rfl
        refine ⟨some (.int (ab32 (mtl (fcs LL h (nI s)) B (nI v) 10))), ?_⟩
        rw [ei, sX7_bestQuestion_17, bq]
        generalize bq (fun v => ab32 (mtl (fcs LL h (nI s)) B (nI v) 10)) v = q at *
        obtain ⟨q1, q2⟩ := q
        by_cases cc : ab32 (mtl (fcs LL h (nI s)) B (nI v) 10) < q2
        · have cc' := Int32.not_le.mpr cc
          simp (disch := (first | assumption | omega | decide)) only [sX7_bestQuestion_0, sX7_bestQuestion_1, sX7_bestQuestion_2, sX7_bestQuestion_3, sX7_bestQuestion_6, sX7_bestQuestion_7, sX7_bestQuestion_8, sX7_bestQuestion_10, sX7_bestQuestion_12, sX7_bestQuestion_14, sX7_bestQuestion_15, sX7_bestQuestion_19, sX7_bestQuestion_21, sX7_bestQuestion_24, sX7_bestQuestion_25, sX7_bestQuestion_28, sX7_bestQuestion_29, sX7_bestQuestion_30, sX7_bestQuestion_32, sX7_bestQuestion_35, sX7_bestQuestion_38, sX7_bestQuestion_40, sX7_bestQuestion_42, sX7_bestQuestion_44, sX7_bestQuestion_47, sX7_bestQuestion_49, sX7_bestQuestion_51, sX7_bestQuestion_53, sX7_bestQuestion_55, sX7_bestQuestion_58, sX7_bestQuestion_61, sX7_bestQuestion_63, kI_i, kL_l, kV_v, am_rv_s, am_kl_i, am_kl_r, am_kl_n, am_kl_l, true_and, and_true, and_self, true_or, or_true, implies_true, forall_const, not_true_eq_false, not_false_eq_true, false_implies, true_implies, if_true, if_false, Bool.true_eq_false, Bool.false_eq_true, ob_435, e0, nz, mt, ea, cc, cc', nI_1]
        · have cc' := Int32.not_lt.mp cc
          simp (disch := (first | assumption | omega | decide)) only [sX7_bestQuestion_0, sX7_bestQuestion_1, sX7_bestQuestion_2, sX7_bestQuestion_3, sX7_bestQuestion_6, sX7_bestQuestion_7, sX7_bestQuestion_8, sX7_bestQuestion_10, sX7_bestQuestion_12, sX7_bestQuestion_14, sX7_bestQuestion_15, sX7_bestQuestion_19, sX7_bestQuestion_21, sX7_bestQuestion_24, sX7_bestQuestion_25, sX7_bestQuestion_28, sX7_bestQuestion_29, sX7_bestQuestion_30, sX7_bestQuestion_32, sX7_bestQuestion_35, sX7_bestQuestion_38, sX7_bestQuestion_40, sX7_bestQuestion_42, sX7_bestQuestion_44, sX7_bestQuestion_47, sX7_bestQuestion_49, sX7_bestQuestion_51, sX7_bestQuestion_53, sX7_bestQuestion_55, sX7_bestQuestion_58, sX7_bestQuestion_61, sX7_bestQuestion_63, kI_i, kL_l, kV_v, am_rv_s, am_kl_i, am_kl_r, am_kl_n, am_kl_l, true_and, and_true, and_self, true_or, or_true, implies_true, forall_const, not_true_eq_false, not_false_eq_true, false_implies, true_implies, if_true, if_false, Bool.true_eq_false, Bool.false_eq_true, ob_435, e0, nz, mt, ea, cc, cc', nI_1]
    obtain ⟨l7', k0⟩ := key 100 (by omega) none
    have e0 : ((99 : Int32) < nI 100) = True := eq_true (by decide)
    simp (disch := (first | assumption | omega | decide)) only [sX7_bestQuestion_0, sX7_bestQuestion_1, sX7_bestQuestion_2, sX7_bestQuestion_3, sX7_bestQuestion_6, sX7_bestQuestion_7, sX7_bestQuestion_8, sX7_bestQuestion_10, sX7_bestQuestion_12, sX7_bestQuestion_14, sX7_bestQuestion_15, sX7_bestQuestion_19, sX7_bestQuestion_21, sX7_bestQuestion_24, sX7_bestQuestion_25, sX7_bestQuestion_28, sX7_bestQuestion_29, sX7_bestQuestion_30, sX7_bestQuestion_32, sX7_bestQuestion_35, sX7_bestQuestion_38, sX7_bestQuestion_40, sX7_bestQuestion_42, sX7_bestQuestion_44, sX7_bestQuestion_47, sX7_bestQuestion_49, sX7_bestQuestion_51, sX7_bestQuestion_53, sX7_bestQuestion_55, sX7_bestQuestion_58, sX7_bestQuestion_61, sX7_bestQuestion_63, kI_i, kL_l, kV_v, am_rv_s, am_kl_i, am_kl_r, am_kl_n, am_kl_l, true_and, and_true, and_self, true_or, or_true, implies_true, forall_const, not_true_eq_false, not_false_eq_true, false_implies, true_implies, if_true, if_false, Bool.true_eq_false, Bool.false_eq_true, ob_435, e, k0]
    rw [sX7_bestQuestion_17]
    simp (disch := (first | assumption | omega | decide)) only [sX7_bestQuestion_0, sX7_bestQuestion_1, sX7_bestQuestion_2, sX7_bestQuestion_3, sX7_bestQuestion_6, sX7_bestQuestion_7, sX7_bestQuestion_8, sX7_bestQuestion_10, sX7_bestQuestion_12, sX7_bestQuestion_14, sX7_bestQuestion_15, sX7_bestQuestion_19, sX7_bestQuestion_21, sX7_bestQuestion_24, sX7_bestQuestion_25, sX7_bestQuestion_28, sX7_bestQuestion_29, sX7_bestQuestion_30, sX7_bestQuestion_32, sX7_bestQuestion_35, sX7_bestQuestion_38, sX7_bestQuestion_40, sX7_bestQuestion_42, sX7_bestQuestion_44, sX7_bestQuestion_47, sX7_bestQuestion_49, sX7_bestQuestion_51, sX7_bestQuestion_53, sX7_bestQuestion_55, sX7_bestQuestion_58, sX7_bestQuestion_61, sX7_bestQuestion_63, kI_i, kL_l, kV_v, am_rv_s, am_kl_i, am_kl_r, am_kl_n, am_kl_l, true_and, and_true, and_self, true_or, or_true, implies_true, forall_const, not_true_eq_false, not_false_eq_true, false_implies, true_implies, if_true, if_false, Bool.true_eq_false, Bool.false_eq_true, e0]
theorem sort_x {so : Int32} (h : 0 ≤ so ∧ so ≤ 4) : ∃ s, s < 5 ∧ so = nI s := by
  obtain ⟨s, hs, rfl⟩ := nI_of (Int32.not_lt.mpr h.1)
  refine ⟨s, ?_, rfl⟩
  have := h.2
  rw [show (4 : Int32) = nI 4 from rfl, nI_leE hs (by omega)] at this
  omega
theorem c_args {so : Int32} (hW : WR M) (hs : StC M 3 ap lim S) (hL : SeC M L) (hb : LbC M LL h) : ∃ M', (∀ d (Q : am_Q), am_big (d + 6) mX10_args [.ref 0, .int so] 488 M Q = Q (some (.int (argsA ap LL h L so))) M') ∧ Fw XFi M M' := by
  have io := fun d (Q : am_Q) => c_isOpen (d := d) (Q := Q) hW hs
  unfold argsA
  cases c1 : opn ap with
  | false =>
    refine ⟨M, fun d Q => ?_, Fw.rf⟩
    rw [if_neg (fun z => by cases z.1), eX10_args]
    simp (disch := (first | assumption | omega | decide)) only [sX10_args_0, sX10_args_1, sX10_args_4, sX10_args_7, sX10_args_8, sX10_args_11, sX10_args_14, sX10_args_15, sX10_args_18, sX10_args_19, sX10_args_22, sX10_args_23, sX10_args_26, sX10_args_29, sX10_args_30, kI_i, kL_l, kV_v, am_rv_s, am_kl_i, am_kl_r, am_kl_n, am_kl_l, true_and, and_true, and_self, true_or, or_true, implies_true, forall_const, not_true_eq_false, not_false_eq_true, false_implies, true_implies, if_true, if_false, Bool.true_eq_false, Bool.false_eq_true, ob_0, io, c1, bz_f]
  | true =>
    by_cases c2 : 0 ≤ so ∧ so ≤ 4
    · obtain ⟨s, hs, rfl⟩ := sort_x c2
      obtain ⟨M', e, c, f⟩ := c_fitting hs hW hL hb
      refine ⟨M', fun d Q => ?_, f⟩
      rw [if_pos ⟨rfl, c2⟩, eX10_args]
      simp (disch := (first | assumption | omega | decide)) only [sX10_args_0, sX10_args_1, sX10_args_4, sX10_args_7, sX10_args_8, sX10_args_11, sX10_args_14, sX10_args_15, sX10_args_18, sX10_args_19, sX10_args_22, sX10_args_23, sX10_args_26, sX10_args_29, sX10_args_30, kI_i, kL_l, kV_v, am_rv_s, am_kl_i, am_kl_r, am_kl_n, am_kl_l, true_and, and_true, and_self, true_or, or_true, implies_true, forall_const, not_true_eq_false, not_false_eq_true, false_implies, true_implies, if_true, if_false, Bool.true_eq_false, Bool.false_eq_true, ob_0, ob_435, ob_392, io, c1, bz_t, i01, c_isSort, c2, decide_true, r_0_14, r_0_6, e]
    · refine ⟨M, fun d Q => ?_, Fw.rf⟩
      rw [if_neg (fun z => c2 z.2), eX10_args]
      simp (disch := (first | assumption | omega | decide)) only [sX10_args_0, sX10_args_1, sX10_args_4, sX10_args_7, sX10_args_8, sX10_args_11, sX10_args_14, sX10_args_15, sX10_args_18, sX10_args_19, sX10_args_22, sX10_args_23, sX10_args_26, sX10_args_29, sX10_args_30, kI_i, kL_l, kV_v, am_rv_s, am_kl_i, am_kl_r, am_kl_n, am_kl_l, true_and, and_true, and_self, true_or, or_true, implies_true, forall_const, not_true_eq_false, not_false_eq_true, false_implies, true_implies, if_true, if_false, Bool.true_eq_false, Bool.false_eq_true, ob_0, io, c1, bz_t, bz_f, i01, c_isSort, c2, decide_false]
theorem c_ask {so : Int32} (hW : WR M) (hs : StC M 3 ap lim S) (hL : SeC M L) (hb : LbC M LL h) : ∃ M', (∀ d (Q : am_Q), am_big (d + 7) mX10_ask [.ref 0, .int so] 488 M Q = Q (some (.int (askA ap LL h L so))) M') ∧ Fw XFi M M' := by
  have io := fun d (Q : am_Q) => c_isOpen (d := d) (Q := Q) hW hs
  unfold askA
  cases c1 : opn ap with
  | false =>
    refine ⟨M, fun d Q => ?_, Fw.rf⟩
    rw [if_neg (fun z => by cases z.1), eX10_ask]
    simp (disch := (first | assumption | omega | decide)) only [sX10_ask_0, sX10_ask_1, sX10_ask_4, sX10_ask_7, sX10_ask_8, sX10_ask_11, sX10_ask_14, sX10_ask_15, sX10_ask_18, sX10_ask_19, sX10_ask_22, sX10_ask_23, sX10_ask_26, sX10_ask_29, sX10_ask_30, kI_i, kL_l, kV_v, am_rv_s, am_kl_i, am_kl_r, am_kl_n, am_kl_l, true_and, and_true, and_self, true_or, or_true, implies_true, forall_const, not_true_eq_false, not_false_eq_true, false_implies, true_implies, if_true, if_false, Bool.true_eq_false, Bool.false_eq_true, ob_0, io, c1, bz_f]
  | true =>
    by_cases c2 : 0 ≤ so ∧ so ≤ 4
    · obtain ⟨s, hs, rfl⟩ := sort_x c2
      obtain ⟨M', e, f⟩ := c_best hs hW hL hb
      refine ⟨M', fun d Q => ?_, f⟩
      rw [if_pos ⟨rfl, c2⟩, eX10_ask]
      simp (disch := (first | assumption | omega | decide)) only [sX10_ask_0, sX10_ask_1, sX10_ask_4, sX10_ask_7, sX10_ask_8, sX10_ask_11, sX10_ask_14, sX10_ask_15, sX10_ask_18, sX10_ask_19, sX10_ask_22, sX10_ask_23, sX10_ask_26, sX10_ask_29, sX10_ask_30, kI_i, kL_l, kV_v, am_rv_s, am_kl_i, am_kl_r, am_kl_n, am_kl_l, true_and, and_true, and_self, true_or, or_true, implies_true, forall_const, not_true_eq_false, not_false_eq_true, false_implies, true_implies, if_true, if_false, Bool.true_eq_false, Bool.false_eq_true, ob_0, ob_435, ob_392, io, c1, bz_t, i01, c_isSort, c2, decide_true, r_0_14, r_0_6, e]
    · refine ⟨M, fun d Q => ?_, Fw.rf⟩
      rw [if_neg (fun z => c2 z.2), eX10_ask]
      simp (disch := (first | assumption | omega | decide)) only [sX10_ask_0, sX10_ask_1, sX10_ask_4, sX10_ask_7, sX10_ask_8, sX10_ask_11, sX10_ask_14, sX10_ask_15, sX10_ask_18, sX10_ask_19, sX10_ask_22, sX10_ask_23, sX10_ask_26, sX10_ask_29, sX10_ask_30, kI_i, kL_l, kV_v, am_rv_s, am_kl_i, am_kl_r, am_kl_n, am_kl_l, true_and, and_true, and_self, true_or, or_true, implies_true, forall_const, not_true_eq_false, not_false_eq_true, false_implies, true_implies, if_true, if_false, Bool.true_eq_false, Bool.false_eq_true, ob_0, io, c1, bz_t, bz_f, i01, c_isSort, c2, decide_false]
end
