/-! the class reads a law -/
def cfn (M : am_M) (l : List Int32) (k : Nat) : Int32 := if h : k < l.length then l[k] else gI M 409 k
def PS (M : am_M) (p : Nat) (l : List Int32) : am_M := sI (sI (fl M 409 480 (cfn M l)) 408 2 (nI l.length)) 1 2 (nI p)
section
variable {d : Nat} {M : am_M} {Q : am_Q} {len p q p0 : Nat} {l : List Int32}
theorem PS_at : sI (PS M p l) 1 2 (nI q) = PS M q l := by unfold PS; rw [sI_sI]
theorem gI_PSp : gI (PS M p l) 1 2 = nI p := by unfold PS; rw [gI_e]
theorem gI_PSn : gI (PS M p l) 408 2 = nI l.length := by unfold PS; rw [gI_o (by omega), gI_e]
theorem gR_PS {a j : Nat} : gR (PS M p l) a j = gR M a j := rfl
theorem gI_PSo {a j : Nat} (h1 : a ≠ 1) (h2 : a ≠ 408) (h3 : a ≠ 409) : gI (PS M p l) a j = gI M a j := by unfold PS; rw [gI_o h1, gI_o h2, gI_fn h3]
theorem T_PS : gI (PS M p l) 2 = gI M 2 := funext fun j => gI_PSo (by omega) (by omega) (by omega)
theorem TP_PS (h : TP M len p0) (hp : p ≤ len) : TP (PS M p l) len p := ⟨h.1, by unfold PS; rw [gI_j (by omega), gI_o (by omega), gI_fn (by omega)]; exact h.2.1, gI_PSp, h.2.2.2.1, hp⟩
theorem PS_add {v : Int32} (hl : l.length < 480) : sI (sI (PS M p l) 409 l.length v) 408 2 (nI (l.length + 1)) = PS M p (l ++ [v]) := by
  refine M_ext (fun b j => ?_) (fun _ _ => rfl) (fun _ _ => rfl)
  unfold PS
  simp only [gI_sI, gI_fl']
  have e : (l ++ [v]).length = l.length + 1 := by simp
  by_cases h1 : b = 1
  · simp [h1]
  · by_cases h2 : b = 408
    · simp [h2, e]
      by_cases j3 : j = 2
      · simp [j3]
      · simp [j3]
    · by_cases h3 : b = 409
      · subst h3
        simp
        unfold cfn
        by_cases j1 : j = l.length
        · subst j1; simp; intro hz; omega
        · by_cases j2 : j < l.length
          · have : j < l.length + 1 := by omega
            simp [j1, j2, List.getElem_append_left j2, this]
          · have : ¬ j < l.length + 1 := by omega
            simp [j1, j2, this]
      · simp [h1, h2, h3]
theorem PS_set {v : Int32} {k : Nat} (hk : k < l.length) (hl : l.length ≤ 480) : sI (PS M p l) 409 k v = PS M p (l.set k v) := by
  refine M_ext (fun b j => ?_) (fun _ _ => rfl) (fun _ _ => rfl)
  unfold PS
  simp only [gI_sI, gI_fl']
  by_cases h3 : b = 409
  · subst h3
    simp
    unfold cfn
    by_cases j1 : j = k
    · subst j1
      have : j < 480 := by omega
      simp [hk, this]
    · by_cases j2 : j < l.length
      · simp [j1, j2, List.getElem_set, Ne.symm j1]
      · simp [j1, j2]
  · simp [h3]
theorem PS_accept {x : Int32} (h : TP M len p0) (hp : p ≤ len) : am_big (d + 2) mX9_accept [.ref 1, .int x] 488 (PS M p l) Q = if sg (gI M 2) len (skp (gI M 2) len p) = x then Q (some (.int 1)) (PS M (skp (gI M 2) len p + 1) l) else Q (some (.int 0)) (PS M (skp (gI M 2) len p) l) := by
  rw [c_accept (TP_PS h hp), T_PS, PS_at, PS_at]
theorem PS_peek (h : TP M len p0) (hp : p ≤ len) : am_big (d + 1) mX9_peek [.ref 1] 488 (PS M p l) Q = Q (some (.int (sg (gI M 2) len (skp (gI M 2) len p)))) (PS M (skp (gI M 2) len p) l) := by
  rw [c_peek (TP_PS h hp), T_PS, PS_at]
theorem PS_num (h : TP M len p0) (hp : p ≤ len) : am_big (d + 3) mX9_readNumber [.ref 1, .int 4] 488 (PS M p l) Q = Q (some (.int (rnum (gI M 2) len 4 p).1)) (PS M (rnum (gI M 2) len 4 p).2 l) := by
  rw [show (4 : Int32) = nI 4 from rfl, c_readNumber (by omega) (TP_PS h hp), T_PS, PS_at]
theorem c_addNumber {v : Int32} (hW : WR M) (hl : l.length < 480) : am_big (d + 1) mX2_addNumber [.ref 408, .int v] 488 (PS M p l) Q = Q none (PS M p (l ++ [v])) := by
  have e1 := li_le 480 480 (k := l.length) rfl (by omega) (by omega)
  have e2 : (480 ≤ l.length) = False := eq_false (by omega)
  rw [eX2_addNumber]
  simp (disch := (first | assumption | omega | decide)) only [sX2_addNumber_0, sX2_addNumber_1, sX2_addNumber_4, sX2_addNumber_7, sX2_addNumber_10, sX2_addNumber_11, sX2_addNumber_14, sX2_addNumber_15, sX2_addNumber_18, sX2_addNumber_19, sX2_addNumber_20, sX2_addNumber_21, sX2_addNumber_22, sX2_addNumber_25, sX2_addNumber_26, sX2_addNumber_27, sX2_addNumber_30, kI_i, kL_l, kV_v, am_rv_s, am_kl_i, am_kl_r, am_kl_n, am_kl_l, true_and, and_true, and_self, true_or, or_true, implies_true, forall_const, not_true_eq_false, not_false_eq_true, false_implies, true_implies, if_true, if_false, Bool.true_eq_false, Bool.false_eq_true, ob_408, gI_PSn, e1, e2, gR_PS, r_408_0, in_409, iw_409, nI_clamp, gI_o, nI_1, PS_add]
theorem c_addLetter {v : Int32} (hW : WR M) (hl : l.length < 480) : am_big (d + 2) mX2_addLetter [.ref 408, .int v] 488 (PS M p l) Q = Q none (PS M p (l ++ [10000 + v])) := by
  rw [eX2_addLetter]
  simp (disch := (first | assumption | omega | decide)) only [sX2_addLetter_0, sX2_addLetter_1, sX2_addLetter_4, sX2_addLetter_5, sX2_addLetter_6, sX2_addLetter_9, kI_i, kL_l, kV_v, am_rv_s, am_kl_i, am_kl_r, am_kl_n, am_kl_l, true_and, and_true, and_self, true_or, or_true, implies_true, forall_const, not_true_eq_false, not_false_eq_true, false_implies, true_implies, if_true, if_false, Bool.true_eq_false, Bool.false_eq_true, ob_408, c_addNumber hW hl]
theorem c_addSign {v : Int32} (hW : WR M) (hl : l.length < 480) : am_big (d + 2) mX2_addSign [.ref 408, .int v] 488 (PS M p l) Q = Q none (PS M p (l ++ [20000 + v])) := by
  rw [eX2_addSign]
  simp (disch := (first | assumption | omega | decide)) only [sX2_addSign_0, sX2_addSign_1, sX2_addSign_4, sX2_addSign_5, sX2_addSign_6, sX2_addSign_9, kI_i, kL_l, kV_v, am_rv_s, am_kl_i, am_kl_r, am_kl_n, am_kl_l, true_and, and_true, and_self, true_or, or_true, implies_true, forall_const, not_true_eq_false, not_false_eq_true, false_implies, true_implies, if_true, if_false, Bool.true_eq_false, Bool.false_eq_true, ob_408, c_addNumber hW hl]
theorem c_addStop (hW : WR M) (hl : l.length < 480) : am_big (d + 2) mX2_addStop [.ref 408] 488 (PS M p l) Q = Q none (PS M p (l ++ [20000])) := by
  rw [eX2_addStop]
  simp (disch := (first | assumption | omega | decide)) only [sX2_addStop_0, sX2_addStop_1, sX2_addStop_4, sX2_addStop_7, kI_i, kL_l, kV_v, am_rv_s, am_kl_i, am_kl_r, am_kl_n, am_kl_l, true_and, and_true, and_self, true_or, or_true, implies_true, forall_const, not_true_eq_false, not_false_eq_true, false_implies, true_implies, if_true, if_false, Bool.true_eq_false, Bool.false_eq_true, ob_408, c_addNumber hW hl]
theorem c_addQuestion (hW : WR M) (hl : l.length + 1 < 480) : am_big (d + 3) mX2_addQuestion [.ref 408] 488 (PS M p l) Q = Q (some (.int (nI (l.length + 1)))) (PS M p (l ++ [20063, nI (l.length + 1)])) := by
  have e1 : ∀ v w, nI (l ++ [v] ++ [w]).length - 1 = nI (l.length + 1) := fun v w => by simp only [List.length_append, List.length_cons, List.length_nil]; exact nI_pred _
  have e2 : ∀ v : Int32, (l ++ [v]).length = l.length + 1 := fun v => by simp
  have e3 : (20000 : Int32) + 63 = 20063 := by decide
  have c2 : ∀ v w (Q : am_Q), am_big (d + 2) mX2_addNumber [.ref 408, .int v] 488 (PS M p (l ++ [w])) Q = Q none (PS M p (l ++ [w] ++ [v])) := fun v w Q => c_addNumber hW (by rw [e2]; omega)
  rw [eX2_addQuestion]
  simp (disch := (first | assumption | omega | decide)) only [sX2_addQuestion_0, sX2_addQuestion_1, sX2_addQuestion_3, sX2_addQuestion_6, sX2_addQuestion_7, sX2_addQuestion_8, sX2_addQuestion_11, sX2_addQuestion_14, sX2_addQuestion_15, sX2_addQuestion_18, sX2_addQuestion_19, sX2_addQuestion_20, kI_i, kL_l, kV_v, am_rv_s, am_kl_i, am_kl_r, am_kl_n, am_kl_l, true_and, and_true, and_self, true_or, or_true, implies_true, forall_const, not_true_eq_false, not_false_eq_true, false_implies, true_implies, if_true, if_false, Bool.true_eq_false, Bool.false_eq_true, ob_408, c_addSign hW (by omega : l.length < 480), gI_PSn, c2, e1, e2, e3]
  rw [List.append_assoc]; rfl
theorem c_setNext {k : Nat} (hW : WR M) (hk : k < l.length) (hl : l.length ≤ 480) : am_big (d + 1) mX2_setNextClause [.ref 408, .int (nI k)] 488 (PS M p l) Q = Q none (PS M p (l.set k (nI l.length))) := by
  have e0 : (nI l.length ≤ nI k) = False := by rw [nI_leE (by omega) (by omega)]; exact eq_false (by omega)
  rw [eX2_setNextClause]
  simp (disch := (first | assumption | omega | decide)) only [sX2_setNextClause_0, sX2_setNextClause_1, sX2_setNextClause_4, sX2_setNextClause_5, sX2_setNextClause_6, sX2_setNextClause_9, sX2_setNextClause_12, sX2_setNextClause_13, sX2_setNextClause_16, sX2_setNextClause_17, sX2_setNextClause_18, sX2_setNextClause_21, sX2_setNextClause_22, kI_i, kL_l, kV_v, am_rv_s, am_kl_i, am_kl_r, am_kl_n, am_kl_l, true_and, and_true, and_self, true_or, or_true, implies_true, forall_const, not_true_eq_false, not_false_eq_true, false_implies, true_implies, if_true, if_false, Bool.true_eq_false, Bool.false_eq_true, ob_408, nI_lt0, gI_PSn, e0, gR_PS, r_408_0, iw_409, nI_clamp, PS_set]
theorem c_isCompare {x : Int32} {N : am_M} : am_big (d + 1) mX4_isCompare [.int x] 488 N Q = Q (some (.int (bz (isCp x)))) N := by
  rw [eX4_isCompare]
  simp only [sX4_isCompare_0, sX4_isCompare_1, sX4_isCompare_3, sX4_isCompare_6, sX4_isCompare_7, sX4_isCompare_9, sX4_isCompare_12, sX4_isCompare_13, sX4_isCompare_15, sX4_isCompare_18, sX4_isCompare_19, sX4_isCompare_22, sX4_isCompare_23, kI_i, kL_l, kV_v, am_rv_s, am_kl_i, am_kl_r, am_kl_n, am_kl_l, true_and, and_true, and_self, true_or, or_true, implies_true, forall_const, not_true_eq_false, not_false_eq_true, false_implies, true_implies, if_true, if_false, Bool.true_eq_false, Bool.false_eq_true]
  unfold isCp
  by_cases h1 : x = 61
  · simp [h1, bz]
  · by_cases h2 : x = 60
    · simp [h2, bz]
    · by_cases h3 : x = 62
      · simp [h3, bz]
      · simp [h1, h2, h3, bz]
theorem c_letterOf {x : Int32} {N : am_M} : am_big (d + 1) mX4_letterOf [.int x] 488 N Q = Q (some (.int (ltr x))) N := by
  rw [eX4_letterOf]
  simp only [sX4_letterOf_0, sX4_letterOf_1, sX4_letterOf_60, sX4_letterOf_61, sX4_letterOf_62, sX4_letterOf_63, sX4_letterOf_64, sX4_letterOf_65, sX4_letterOf_66, sX4_letterOf_67, sX4_letterOf_68, sX4_letterOf_69, sX4_letterOf_70, sX4_letterOf_71, sX4_letterOf_72, sX4_letterOf_73, kI_i, kL_l, kV_v, am_rv_s, am_kl_i, am_kl_r, am_kl_n, am_kl_l, true_and, and_true, and_self, true_or, or_true, implies_true, forall_const, not_true_eq_false, not_false_eq_true, false_implies, true_implies, if_true, if_false, Bool.true_eq_false, Bool.false_eq_true]
  unfold ltr
  by_cases h1 : x = 119
  · simp [h1]
  · by_cases h2 : x = 105
    · simp [h2]
    · by_cases h3 : x = 120
      · simp [h3]
      · by_cases h4 : x = 110
        · simp [h4]
        · by_cases h5 : x = 98
          · simp [h5]
          · by_cases h6 : x = 116
            · simp [h6]
            · simp [h1, h2, h3, h4, h5, h6]
end
/-- a method that reads, at a depth: its contract -/
def PSK (M : am_M) (len K : Nat) (m : am_Y) (ex : List Value) (P : Nat → PR) : Prop := ∀ D, K ≤ D → ∀ (Q : am_Q) (p : Nat) (l : List Int32), 0 < p → p ≤ len → l.length ≤ p → am_big D m ([.ref 407, .ref 1] ++ ex) 488 (PS M p l) Q = Q (some (.int (bz (P p).1))) (PS M (P p).2.1 (l ++ (P p).2.2))
def dpt (l : Nat) : Int32 := nI (6 - l)
section
variable {M : am_M} {len p0 K : Nat}
theorem PSK_atom {lv : Nat} {S : Option (Nat → PR)} (hW : WR M) (h : TP M len p0) (hlv : lv ≤ 6) (hS : ∀ s, S = some s → 0 < lv ∧ gd len s ∧ PSK M len K mX4_readSum [.int (dpt (lv - 1))] s) (hN : S = none → lv = 0) (hK : 3 ≤ K) : PSK M len (K + 1) mX4_readAtom [.int (dpt lv)] (atomF (gI M 2) len S) := by
  intro D hD Q p l hp0 hp hl
  have hlen := h.2.2.2.1
  obtain ⟨d, rfl⟩ : ∃ d, D = d + 4 := ⟨D - 4, by omega⟩
  have hs := skp_le' (T := gI M 2) hp
  have hg := skp_ge (T := gI M 2) (len := len) (p := p)
  show am_big (d + 3 + 1) mX4_readAtom [.ref 407, .ref 1, .int (dpt lv)] 488 (PS M p l) Q = _
  rw [eX4_readAtom]
  unfold atomF
  by_cases c1 : sg (gI M 2) len (skp (gI M 2) len p) = 91
  · have hlt := sg_lt c1 (by decide)
    rw [if_pos c1]
    cases S with
    | none =>
      have e6 : (dpt lv < 6) = False := by rw [hN rfl]; exact eq_false (by decide)
      simp (disch := (first | assumption | omega | decide)) only [sX4_readAtom_0, sX4_readAtom_1, sX4_readAtom_4, sX4_readAtom_5, sX4_readAtom_6, sX4_readAtom_8, sX4_readAtom_11, sX4_readAtom_12, sX4_readAtom_14, sX4_readAtom_17, sX4_readAtom_18, sX4_readAtom_19, sX4_readAtom_20, sX4_readAtom_21, sX4_readAtom_24, sX4_readAtom_25, sX4_readAtom_26, sX4_readAtom_29, sX4_readAtom_30, sX4_readAtom_31, sX4_readAtom_32, sX4_readAtom_33, sX4_readAtom_34, sX4_readAtom_37, sX4_readAtom_40, sX4_readAtom_41, sX4_readAtom_43, sX4_readAtom_46, sX4_readAtom_49, sX4_readAtom_50, sX4_readAtom_53, sX4_readAtom_54, sX4_readAtom_55, sX4_readAtom_56, sX4_readAtom_59, sX4_readAtom_62, sX4_readAtom_63, sX4_readAtom_64, sX4_readAtom_67, sX4_readAtom_69, sX4_readAtom_70, sX4_readAtom_73, sX4_readAtom_75, sX4_readAtom_78, sX4_readAtom_80, sX4_readAtom_81, sX4_readAtom_84, sX4_readAtom_85, sX4_readAtom_88, sX4_readAtom_89, sX4_readAtom_90, sX4_readAtom_91, sX4_readAtom_94, sX4_readAtom_96, sX4_readAtom_98, sX4_readAtom_99, sX4_readAtom_102, sX4_readAtom_103, sX4_readAtom_104, sX4_readAtom_105, sX4_readAtom_106, sX4_readAtom_109, sX4_readAtom_110, sX4_readAtom_111, sX4_readAtom_114, sX4_readAtom_115, sX4_readAtom_118, sX4_readAtom_120, sX4_readAtom_123, sX4_readAtom_124, kI_i, kL_l, kV_v, am_rv_s, am_kl_i, am_kl_r, am_kl_n, am_kl_l, true_and, and_true, and_self, true_or, or_true, implies_true, forall_const, not_true_eq_false, not_false_eq_true, false_implies, true_implies, if_true, if_false, Bool.true_eq_false, Bool.false_eq_true, ob_407, ob_1, PS_peek h, c1, e6, bz_f, List.append_nil]
    | some s =>
      obtain ⟨hl0, hgs, hPs⟩ := hS s rfl
      have e6 : (dpt lv < 6) = True := by unfold dpt; rw [show (6 : Int32) = nI 6 from rfl, nI_ltE (by omega) (by omega)]; exact eq_true (by omega)
      have e7 : dpt lv + 1 = dpt (lv - 1) := by unfold dpt; rw [nI_1]; congr 1; omega
      have hq := hgs (skp (gI M 2) len p + 1) (by omega)
      have cs : ∀ (Q : am_Q), am_big (d + 3) mX4_readSum [.ref 407, .ref 1, .int (dpt (lv - 1))] 488 (PS M (skp (gI M 2) len p + 1) l) Q = _ := fun Q => hPs (d + 3) (by omega) Q (skp (gI M 2) len p + 1) l (by omega) (by omega) (by omega)
      unfold clsF
      simp only
      generalize hr : s (skp (gI M 2) len p + 1) = r at cs hq
      obtain ⟨ok1, q1, c⟩ := r
      simp only at cs hq
      cases ok1 with
      | false => simp (disch := (first | assumption | omega | decide)) only [sX4_readAtom_0, sX4_readAtom_1, sX4_readAtom_4, sX4_readAtom_5, sX4_readAtom_6, sX4_readAtom_8, sX4_readAtom_11, sX4_readAtom_12, sX4_readAtom_14, sX4_readAtom_17, sX4_readAtom_18, sX4_readAtom_19, sX4_readAtom_20, sX4_readAtom_21, sX4_readAtom_24, sX4_readAtom_25, sX4_readAtom_26, sX4_readAtom_29, sX4_readAtom_30, sX4_readAtom_31, sX4_readAtom_32, sX4_readAtom_33, sX4_readAtom_34, sX4_readAtom_37, sX4_readAtom_40, sX4_readAtom_41, sX4_readAtom_43, sX4_readAtom_46, sX4_readAtom_49, sX4_readAtom_50, sX4_readAtom_53, sX4_readAtom_54, sX4_readAtom_55, sX4_readAtom_56, sX4_readAtom_59, sX4_readAtom_62, sX4_readAtom_63, sX4_readAtom_64, sX4_readAtom_67, sX4_readAtom_69, sX4_readAtom_70, sX4_readAtom_73, sX4_readAtom_75, sX4_readAtom_78, sX4_readAtom_80, sX4_readAtom_81, sX4_readAtom_84, sX4_readAtom_85, sX4_readAtom_88, sX4_readAtom_89, sX4_readAtom_90, sX4_readAtom_91, sX4_readAtom_94, sX4_readAtom_96, sX4_readAtom_98, sX4_readAtom_99, sX4_readAtom_102, sX4_readAtom_103, sX4_readAtom_104, sX4_readAtom_105, sX4_readAtom_106, sX4_readAtom_109, sX4_readAtom_110, sX4_readAtom_111, sX4_readAtom_114, sX4_readAtom_115, sX4_readAtom_118, sX4_readAtom_120, sX4_readAtom_123, sX4_readAtom_124, kI_i, kL_l, kV_v, am_rv_s, am_kl_i, am_kl_r, am_kl_n, am_kl_l, true_and, and_true, and_self, true_or, or_true, implies_true, forall_const, not_true_eq_false, not_false_eq_true, false_implies, true_implies, if_true, if_false, Bool.true_eq_false, Bool.false_eq_true, ob_407, ob_1, PS_peek h, c1, e6, e7, gI_PSp, nI_1, PS_at, cs, bz_f]
      | true =>
        by_cases c2 : sg (gI M 2) len (skp (gI M 2) len q1) = 93
        · simp (disch := (first | assumption | omega | decide)) only [sX4_readAtom_0, sX4_readAtom_1, sX4_readAtom_4, sX4_readAtom_5, sX4_readAtom_6, sX4_readAtom_8, sX4_readAtom_11, sX4_readAtom_12, sX4_readAtom_14, sX4_readAtom_17, sX4_readAtom_18, sX4_readAtom_19, sX4_readAtom_20, sX4_readAtom_21, sX4_readAtom_24, sX4_readAtom_25, sX4_readAtom_26, sX4_readAtom_29, sX4_readAtom_30, sX4_readAtom_31, sX4_readAtom_32, sX4_readAtom_33, sX4_readAtom_34, sX4_readAtom_37, sX4_readAtom_40, sX4_readAtom_41, sX4_readAtom_43, sX4_readAtom_46, sX4_readAtom_49, sX4_readAtom_50, sX4_readAtom_53, sX4_readAtom_54, sX4_readAtom_55, sX4_readAtom_56, sX4_readAtom_59, sX4_readAtom_62, sX4_readAtom_63, sX4_readAtom_64, sX4_readAtom_67, sX4_readAtom_69, sX4_readAtom_70, sX4_readAtom_73, sX4_readAtom_75, sX4_readAtom_78, sX4_readAtom_80, sX4_readAtom_81, sX4_readAtom_84, sX4_readAtom_85, sX4_readAtom_88, sX4_readAtom_89, sX4_readAtom_90, sX4_readAtom_91, sX4_readAtom_94, sX4_readAtom_96, sX4_readAtom_98, sX4_readAtom_99, sX4_readAtom_102, sX4_readAtom_103, sX4_readAtom_104, sX4_readAtom_105, sX4_readAtom_106, sX4_readAtom_109, sX4_readAtom_110, sX4_readAtom_111, sX4_readAtom_114, sX4_readAtom_115, sX4_readAtom_118, sX4_readAtom_120, sX4_readAtom_123, sX4_readAtom_124, kI_i, kL_l, kV_v, am_rv_s, am_kl_i, am_kl_r, am_kl_n, am_kl_l, true_and, and_true, and_self, true_or, or_true, implies_true, forall_const, not_true_eq_false, not_false_eq_true, false_implies, true_implies, if_true, if_false, Bool.true_eq_false, Bool.false_eq_true, ob_407, ob_1, PS_peek h, c1, e6, e7, gI_PSp, nI_1, PS_at, cs, bz_t, i01, PS_accept h, c2]
        · simp (disch := (first | assumption | omega | decide)) only [sX4_readAtom_0, sX4_readAtom_1, sX4_readAtom_4, sX4_readAtom_5, sX4_readAtom_6, sX4_readAtom_8, sX4_readAtom_11, sX4_readAtom_12, sX4_readAtom_14, sX4_readAtom_17, sX4_readAtom_18, sX4_readAtom_19, sX4_readAtom_20, sX4_readAtom_21, sX4_readAtom_24, sX4_readAtom_25, sX4_readAtom_26, sX4_readAtom_29, sX4_readAtom_30, sX4_readAtom_31, sX4_readAtom_32, sX4_readAtom_33, sX4_readAtom_34, sX4_readAtom_37, sX4_readAtom_40, sX4_readAtom_41, sX4_readAtom_43, sX4_readAtom_46, sX4_readAtom_49, sX4_readAtom_50, sX4_readAtom_53, sX4_readAtom_54, sX4_readAtom_55, sX4_readAtom_56, sX4_readAtom_59, sX4_readAtom_62, sX4_readAtom_63, sX4_readAtom_64, sX4_readAtom_67, sX4_readAtom_69, sX4_readAtom_70, sX4_readAtom_73, sX4_readAtom_75, sX4_readAtom_78, sX4_readAtom_80, sX4_readAtom_81, sX4_readAtom_84, sX4_readAtom_85, sX4_readAtom_88, sX4_readAtom_89, sX4_readAtom_90, sX4_readAtom_91, sX4_readAtom_94, sX4_readAtom_96, sX4_readAtom_98, sX4_readAtom_99, sX4_readAtom_102, sX4_readAtom_103, sX4_readAtom_104, sX4_readAtom_105, sX4_readAtom_106, sX4_readAtom_109, sX4_readAtom_110, sX4_readAtom_111, sX4_readAtom_114, sX4_readAtom_115, sX4_readAtom_118, sX4_readAtom_120, sX4_readAtom_123, sX4_readAtom_124, kI_i, kL_l, kV_v, am_rv_s, am_kl_i, am_kl_r, am_kl_n, am_kl_l, true_and, and_true, and_self, true_or, or_true, implies_true, forall_const, not_true_eq_false, not_false_eq_true, false_implies, true_implies, if_true, if_false, Bool.true_eq_false, Bool.false_eq_true, ob_407, ob_1, PS_peek h, c1, e6, e7, gI_PSp, nI_1, PS_at, cs, bz_t, bz_f, i01, PS_accept h, c2]
  · rw [if_neg c1]
    cases c2 : dgt (sg (gI M 2) len (skp (gI M 2) len p)) with
    | true =>
      have e1 : rnum (gI M 2) len 4 (skp (gI M 2) len p) = rnum (gI M 2) len 4 p := by unfold rnum; rw [skp_idem hp]
      by_cases c3 : (rnum (gI M 2) len 4 p).1 = -1
      · simp (disch := (first | assumption | omega | decide)) only [sX4_readAtom_0, sX4_readAtom_1, sX4_readAtom_4, sX4_readAtom_5, sX4_readAtom_6, sX4_readAtom_8, sX4_readAtom_11, sX4_readAtom_12, sX4_readAtom_14, sX4_readAtom_17, sX4_readAtom_18, sX4_readAtom_19, sX4_readAtom_20, sX4_readAtom_21, sX4_readAtom_24, sX4_readAtom_25, sX4_readAtom_26, sX4_readAtom_29, sX4_readAtom_30, sX4_readAtom_31, sX4_readAtom_32, sX4_readAtom_33, sX4_readAtom_34, sX4_readAtom_37, sX4_readAtom_40, sX4_readAtom_41, sX4_readAtom_43, sX4_readAtom_46, sX4_readAtom_49, sX4_readAtom_50, sX4_readAtom_53, sX4_readAtom_54, sX4_readAtom_55, sX4_readAtom_56, sX4_readAtom_59, sX4_readAtom_62, sX4_readAtom_63, sX4_readAtom_64, sX4_readAtom_67, sX4_readAtom_69, sX4_readAtom_70, sX4_readAtom_73, sX4_readAtom_75, sX4_readAtom_78, sX4_readAtom_80, sX4_readAtom_81, sX4_readAtom_84, sX4_readAtom_85, sX4_readAtom_88, sX4_readAtom_89, sX4_readAtom_90, sX4_readAtom_91, sX4_readAtom_94, sX4_readAtom_96, sX4_readAtom_98, sX4_readAtom_99, sX4_readAtom_102, sX4_readAtom_103, sX4_readAtom_104, sX4_readAtom_105, sX4_readAtom_106, sX4_readAtom_109, sX4_readAtom_110, sX4_readAtom_111, sX4_readAtom_114, sX4_readAtom_115, sX4_readAtom_118, sX4_readAtom_120, sX4_readAtom_123, sX4_readAtom_124, kI_i, kL_l, kV_v, am_rv_s, am_kl_i, am_kl_r, am_kl_n, am_kl_l, true_and, and_true, and_self, true_or, or_true, implies_true, forall_const, not_true_eq_false, not_false_eq_true, false_implies, true_implies, if_true, if_false, Bool.true_eq_false, Bool.false_eq_true, ob_407, ob_1, PS_peek h, c1, c_isDigit, c2, bz_t, i01, PS_num h, e1, gR_PS, r_407_0, ob_408, c_addNumber hW, c3, decide_false, bz_f]
      · simp (disch := (first | assumption | omega | decide)) only [sX4_readAtom_0, sX4_readAtom_1, sX4_readAtom_4, sX4_readAtom_5, sX4_readAtom_6, sX4_readAtom_8, sX4_readAtom_11, sX4_readAtom_12, sX4_readAtom_14, sX4_readAtom_17, sX4_readAtom_18, sX4_readAtom_19, sX4_readAtom_20, sX4_readAtom_21, sX4_readAtom_24, sX4_readAtom_25, sX4_readAtom_26, sX4_readAtom_29, sX4_readAtom_30, sX4_readAtom_31, sX4_readAtom_32, sX4_readAtom_33, sX4_readAtom_34, sX4_readAtom_37, sX4_readAtom_40, sX4_readAtom_41, sX4_readAtom_43, sX4_readAtom_46, sX4_readAtom_49, sX4_readAtom_50, sX4_readAtom_53, sX4_readAtom_54, sX4_readAtom_55, sX4_readAtom_56, sX4_readAtom_59, sX4_readAtom_62, sX4_readAtom_63, sX4_readAtom_64, sX4_readAtom_67, sX4_readAtom_69, sX4_readAtom_70, sX4_readAtom_73, sX4_readAtom_75, sX4_readAtom_78, sX4_readAtom_80, sX4_readAtom_81, sX4_readAtom_84, sX4_readAtom_85, sX4_readAtom_88, sX4_readAtom_89, sX4_readAtom_90, sX4_readAtom_91, sX4_readAtom_94, sX4_readAtom_96, sX4_readAtom_98, sX4_readAtom_99, sX4_readAtom_102, sX4_readAtom_103, sX4_readAtom_104, sX4_readAtom_105, sX4_readAtom_106, sX4_readAtom_109, sX4_readAtom_110, sX4_readAtom_111, sX4_readAtom_114, sX4_readAtom_115, sX4_readAtom_118, sX4_readAtom_120, sX4_readAtom_123, sX4_readAtom_124, kI_i, kL_l, kV_v, am_rv_s, am_kl_i, am_kl_r, am_kl_n, am_kl_l, true_and, and_true, and_self, true_or, or_true, implies_true, forall_const, not_true_eq_false, not_false_eq_true, false_implies, true_implies, if_true, if_false, Bool.true_eq_false, Bool.false_eq_true, ob_407, ob_1, PS_peek h, c1, c_isDigit, c2, bz_t, i01, PS_num h, e1, gR_PS, r_407_0, ob_408, c_addNumber hW, c3, decide_true]
    | false =>
      by_cases c3 : ltr (sg (gI M 2) len (skp (gI M 2) len p)) = -1
      · simp (disch := (first | assumption | omega | decide)) only [sX4_readAtom_0, sX4_readAtom_1, sX4_readAtom_4, sX4_readAtom_5, sX4_readAtom_6, sX4_readAtom_8, sX4_readAtom_11, sX4_readAtom_12, sX4_readAtom_14, sX4_readAtom_17, sX4_readAtom_18, sX4_readAtom_19, sX4_readAtom_20, sX4_readAtom_21, sX4_readAtom_24, sX4_readAtom_25, sX4_readAtom_26, sX4_readAtom_29, sX4_readAtom_30, sX4_readAtom_31, sX4_readAtom_32, sX4_readAtom_33, sX4_readAtom_34, sX4_readAtom_37, sX4_readAtom_40, sX4_readAtom_41, sX4_readAtom_43, sX4_readAtom_46, sX4_readAtom_49, sX4_readAtom_50, sX4_readAtom_53, sX4_readAtom_54, sX4_readAtom_55, sX4_readAtom_56, sX4_readAtom_59, sX4_readAtom_62, sX4_readAtom_63, sX4_readAtom_64, sX4_readAtom_67, sX4_readAtom_69, sX4_readAtom_70, sX4_readAtom_73, sX4_readAtom_75, sX4_readAtom_78, sX4_readAtom_80, sX4_readAtom_81, sX4_readAtom_84, sX4_readAtom_85, sX4_readAtom_88, sX4_readAtom_89, sX4_readAtom_90, sX4_readAtom_91, sX4_readAtom_94, sX4_readAtom_96, sX4_readAtom_98, sX4_readAtom_99, sX4_readAtom_102, sX4_readAtom_103, sX4_readAtom_104, sX4_readAtom_105, sX4_readAtom_106, sX4_readAtom_109, sX4_readAtom_110, sX4_readAtom_111, sX4_readAtom_114, sX4_readAtom_115, sX4_readAtom_118, sX4_readAtom_120, sX4_readAtom_123, sX4_readAtom_124, kI_i, kL_l, kV_v, am_rv_s, am_kl_i, am_kl_r, am_kl_n, am_kl_l, true_and, and_true, and_self, true_or, or_true, implies_true, forall_const, not_true_eq_false, not_false_eq_true, false_implies, true_implies, if_true, if_false, Bool.true_eq_false, Bool.false_eq_true, ob_407, ob_1, PS_peek h, c1, c_isDigit, c2, bz_f, c_letterOf, c3, List.append_nil]
      · simp (disch := (first | assumption | omega | decide)) only [sX4_readAtom_0, sX4_readAtom_1, sX4_readAtom_4, sX4_readAtom_5, sX4_readAtom_6, sX4_readAtom_8, sX4_readAtom_11, sX4_readAtom_12, sX4_readAtom_14, sX4_readAtom_17, sX4_readAtom_18, sX4_readAtom_19, sX4_readAtom_20, sX4_readAtom_21, sX4_readAtom_24, sX4_readAtom_25, sX4_readAtom_26, sX4_readAtom_29, sX4_readAtom_30, sX4_readAtom_31, sX4_readAtom_32, sX4_readAtom_33, sX4_readAtom_34, sX4_readAtom_37, sX4_readAtom_40, sX4_readAtom_41, sX4_readAtom_43, sX4_readAtom_46, sX4_readAtom_49, sX4_readAtom_50, sX4_readAtom_53, sX4_readAtom_54, sX4_readAtom_55, sX4_readAtom_56, sX4_readAtom_59, sX4_readAtom_62, sX4_readAtom_63, sX4_readAtom_64, sX4_readAtom_67, sX4_readAtom_69, sX4_readAtom_70, sX4_readAtom_73, sX4_readAtom_75, sX4_readAtom_78, sX4_readAtom_80, sX4_readAtom_81, sX4_readAtom_84, sX4_readAtom_85, sX4_readAtom_88, sX4_readAtom_89, sX4_readAtom_90, sX4_readAtom_91, sX4_readAtom_94, sX4_readAtom_96, sX4_readAtom_98, sX4_readAtom_99, sX4_readAtom_102, sX4_readAtom_103, sX4_readAtom_104, sX4_readAtom_105, sX4_readAtom_106, sX4_readAtom_109, sX4_readAtom_110, sX4_readAtom_111, sX4_readAtom_114, sX4_readAtom_115, sX4_readAtom_118, sX4_readAtom_120, sX4_readAtom_123, sX4_readAtom_124, kI_i, kL_l, kV_v, am_rv_s, am_kl_i, am_kl_r, am_kl_n, am_kl_l, true_and, and_true, and_self, true_or, or_true, implies_true, forall_const, not_true_eq_false, not_false_eq_true, false_implies, true_implies, if_true, if_false, Bool.true_eq_false, Bool.false_eq_true, ob_407, ob_1, PS_peek h, c1, c_isDigit, c2, bz_f, bz_t, c_letterOf, c3, gI_PSp, nI_1, PS_at, gR_PS, r_407_0, ob_408, c_addLetter hW]
end
