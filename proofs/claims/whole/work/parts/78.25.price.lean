def XPr (c _j : Nat) : Prop := c = 394 ∨ c = 397 ∨ c = 400 ∨ c = 403 ∨ c = 406
section
variable {M N : am_M} {ap lim : Nat} {S : Sg} {P : List Sg} {l : List Dd} {LL : List (List Nat)} {h : Int32} {X : Nat → Nat → Prop}
theorem LW_of {a : Nat} {c : List Int32} (hI : ∀ j, gI N a j = gI M a j) (hI2 : ∀ j, gI N (a + 1) j = gI M (a + 1) j) (hR : ∀ j, gR N a j = gR M a j) (h : LW M a c) : LW N a c := by
  obtain ⟨⟨h1, h2, h3, h4, h5, h6⟩, h7, h8, h9⟩ := h
  exact ⟨⟨h1, h2, h3, h4, by rw [hR]; exact h5, by rw [hR]; exact h6⟩, by rw [hI]; exact h7, h8, fun k hk => by rw [hI2]; exact h9 k hk⟩
theorem LbC_Fw (hF : Fw X M N) (hX : ∀ c j, (c = 392 ∨ (395 ≤ c ∧ c ≤ 405 ∧ c ≠ 397 ∧ c ≠ 400 ∧ c ≠ 403)) → ¬ X c j) (hb : LbC M LL h) : LbC N LL h := by
  obtain ⟨h1, h2, h3, h4, h5, h6⟩ := hb
  refine ⟨by rw [hF.I (hX _ _ (by omega))]; exact h1, by rw [hF.I (hX _ _ (by omega))]; exact h2, h3, h4, h5, fun i hi => ?_⟩
  exact LW_of (fun j => hF.I (hX _ _ (by omega))) (fun j => hF.I (hX _ _ (by omega))) (fun j => hF.R (hX _ _ (by omega))) (h6 i hi)
theorem LbC_pr (hF : Fw XPr M N) (hb : LbC M LL h) : LbC N LL h := LbC_Fw hF (fun c j hc => by unfold XPr; omega) hb
theorem ltF_n {so pa x n b t : Nat} (hb : so ≤ 10000 ∧ pa ≤ 10000 ∧ x ≤ 10000 ∧ n ≤ 10000 ∧ b ≤ 10000 ∧ t ≤ 10000) (z : Int32) : Bd (ltF (nI so) (nI pa) (nI x) (nI n) (nI b) (nI t) z) := by
  obtain ⟨b1, b2, b3, b4, b5, b6⟩ := hb
  unfold ltF
  split
  · exact Bd_n b1
  · split
    · exact Bd_n b2
    · split
      · exact Bd_n b3
      · split
        · exact Bd_n b4
        · split
          · exact Bd_n b5
          · exact Bd_n b6
def ltM (M : am_M) (so pa x n b t : Int32) : am_M := sI (sI (sI (sI (sI (sI M 394 0 so) 394 1 pa) 394 2 x) 394 3 n) 394 4 b) 394 5 t
theorem gI_ltM {so pa x n b t : Int32} : ∀ z, z < 6 → ltF so pa x n b t (nI z) = gI (ltM M so pa x n b t) 394 z := by
  intro z hz
  have : z = 0 ∨ z = 1 ∨ z = 2 ∨ z = 3 ∨ z = 4 ∨ z = 5 := by omega
  rcases this with rfl | rfl | rfl | rfl | rfl | rfl <;> rfl
theorem Fw_ltM {so pa x n b t : Int32} : Fw XPr M (ltM M so pa x n b t) := by
  unfold ltM
  refine ((((((Fw.s ?_).tr (Fw.s ?_)).tr (Fw.s ?_)).tr (Fw.s ?_)).tr (Fw.s ?_)).tr (Fw.s ?_)) <;> exact Or.inl rfl
theorem c_priceOf {so pa x n b t : Nat} (hW : WR M) (hb : LbC M LL h) (hB : so ≤ 10000 ∧ pa ≤ 10000 ∧ x ≤ 10000 ∧ n ≤ 10000 ∧ b ≤ 10000 ∧ t ≤ 10000) : ∃ M', (∀ d (Q : am_Q), am_big (d + 4) mX3_priceOf [.ref 392, .int (nI so), .int (nI pa), .int (nI x), .int (nI n), .int (nI b), .int (nI t)] 488 M Q = Q (some (.int (prc LL h (nI so) (nI pa) (nI x) (nI n) (nI b) (nI t)))) M') ∧ Fw XPr M M' := by
  obtain ⟨h1, h2, h3, h4, h5, h6⟩ := id hb
  unfold prc
  rcases h5 with rfl | ⟨i, hi, rfl⟩
  · refine ⟨M, fun d Q => ?_, Fw.rf⟩
    have m0 : ((-1 : Int32) < 0) = True := eq_true (by decide)
    rw [if_pos rfl, eX3_priceOf]
    simp (disch := (first | assumption | omega | decide)) only [sX3_priceOf_0, sX3_priceOf_1, sX3_priceOf_4, sX3_priceOf_7, sX3_priceOf_8, sX3_priceOf_11, sX3_priceOf_12, sX3_priceOf_15, sX3_priceOf_18, sX3_priceOf_19, sX3_priceOf_20, sX3_priceOf_21, sX3_priceOf_22, sX3_priceOf_23, sX3_priceOf_26, sX3_priceOf_27, sX3_priceOf_28, sX3_priceOf_29, sX3_priceOf_30, sX3_priceOf_33, sX3_priceOf_34, sX3_priceOf_35, sX3_priceOf_36, sX3_priceOf_37, sX3_priceOf_40, sX3_priceOf_41, sX3_priceOf_42, sX3_priceOf_43, sX3_priceOf_44, sX3_priceOf_47, sX3_priceOf_48, sX3_priceOf_50, sX3_priceOf_51, sX3_priceOf_52, sX3_priceOf_55, sX3_priceOf_56, sX3_priceOf_58, sX3_priceOf_59, sX3_priceOf_60, sX3_priceOf_63, sX3_priceOf_64, sX3_priceOf_66, sX3_priceOf_67, sX3_priceOf_68, sX3_priceOf_69, sX3_priceOf_72, sX3_priceOf_73, sX3_priceOf_76, sX3_priceOf_77, sX3_priceOf_78, sX3_priceOf_81, sX3_priceOf_84, sX3_priceOf_85, sX3_priceOf_87, sX3_priceOf_90, kI_i, kL_l, kV_v, am_rv_s, am_kl_i, am_kl_r, am_kl_n, am_kl_l, true_and, and_true, and_self, true_or, or_true, implies_true, forall_const, not_true_eq_false, not_false_eq_true, false_implies, true_implies, if_true, if_false, Bool.true_eq_false, Bool.false_eq_true, ob_392, h2, m0]
  · have fl := Fw_ltM (M := M) (so := nI so) (pa := nI pa) (x := nI x) (n := nI n) (b := nI b) (t := nI t)
    have hW1 := fl.2 hW
    have lw := (LbC_pr fl hb).2.2.2.2.2 i hi
    obtain ⟨vs, hv⟩ := law_ex (L := ltF (nI so) (nI pa) (nI x) (nI n) (nI b) (nI t)) (h4 LL[i] (List.getElem_mem hi)) (fun x _ => ltF_n hB _)
    obtain ⟨f', e⟩ := c_worth lw (fun z hz => ⟨gI_ltM z hz, by rw [← gI_ltM z hz]; exact ltF_n hB _⟩) (by omega) hv
    have ne : ¬ nI i = -1 := fun z => by have := nI_m1 (k := i) (by omega); rw [z] at this; simp at this
    have i0 := nI_lt0 (k := i) (by omega)
    have il : (nI i < nI LL.length) = True := by rw [nI_ltE (by omega) (by omega)]; exact eq_true hi
    have iz : (am_iw 488 393 5 (nI i) ∨ am_iw 488 393 6 (nI i) ∨ am_iw 488 393 7 (nI i)) = True := by rw [iw_393 (by omega)]; simp
    have oo := ob (a := 395 + 3 * i) (c := 2) (by omega) lw.1.2.1
    have ev := lawV_eq hv
    have gd : LL.getD i [] = LL[i] := by rw [List.getD_eq_getElem?_getD, List.getElem?_eq_getElem hi]; rfl
    have q2 : gI (ltM M (nI so) (nI pa) (nI x) (nI n) (nI b) (nI t)) 392 3 = nI i := (fl.I (by unfold XPr; omega)).trans h2
    have r0 : gR (ltM M (nI so) (nI pa) (nI x) (nI n) (nI b) (nI t)) 393 i = some (395 + 3 * i) := r_393 hW1 (by omega)
    refine ⟨_, fun d Q => ?_, fl.tr (Fw.f (M := ltM M (nI so) (nI pa) (nI x) (nI n) (nI b) (nI t)) (a := 395 + 3 * i + 2) (L := 64) (f := f') (fun k _ => by unfold XPr; omega))⟩
    rw [if_neg ne, nI_clamp (by omega), gd, ← ev, eX3_priceOf]
    have hm : sI (sI (sI (sI (sI (sI M 394 0 (nI so)) 394 1 (nI pa)) 394 2 (nI x)) 394 3 (nI n)) 394 4 (nI b)) 394 5 (nI t) = ltM M (nI so) (nI pa) (nI x) (nI n) (nI b) (nI t) := rfl
    have z0 : (0 : Int32).toNatClampNeg = 0 := rfl
    have z1 : (1 : Int32).toNatClampNeg = 1 := rfl
    have z2 : (2 : Int32).toNatClampNeg = 2 := rfl
    have z3 : (3 : Int32).toNatClampNeg = 3 := rfl
    have z4 : (4 : Int32).toNatClampNeg = 4 := rfl
    have z5 : (5 : Int32).toNatClampNeg = 5 := rfl
    have w0 : am_iw 488 394 1 0 = True := iw_394 (k := 0) (by omega)
    have w1 : am_iw 488 394 1 1 = True := iw_394 (k := 1) (by omega)
    have w2 : am_iw 488 394 1 2 = True := iw_394 (k := 2) (by omega)
    have w3 : am_iw 488 394 1 3 = True := iw_394 (k := 3) (by omega)
    have w4 : am_iw 488 394 1 4 = True := iw_394 (k := 4) (by omega)
    have w5 : am_iw 488 394 1 5 = True := iw_394 (k := 5) (by omega)
    simp (disch := (first | assumption | omega | decide)) only [sX3_priceOf_0, sX3_priceOf_1, sX3_priceOf_4, sX3_priceOf_7, sX3_priceOf_8, sX3_priceOf_11, sX3_priceOf_12, sX3_priceOf_15, sX3_priceOf_18, sX3_priceOf_19, sX3_priceOf_20, sX3_priceOf_21, sX3_priceOf_22, sX3_priceOf_23, sX3_priceOf_26, sX3_priceOf_27, sX3_priceOf_28, sX3_priceOf_29, sX3_priceOf_30, sX3_priceOf_33, sX3_priceOf_34, sX3_priceOf_35, sX3_priceOf_36, sX3_priceOf_37, sX3_priceOf_40, sX3_priceOf_41, sX3_priceOf_42, sX3_priceOf_43, sX3_priceOf_44, sX3_priceOf_47, sX3_priceOf_48, sX3_priceOf_50, sX3_priceOf_51, sX3_priceOf_52, sX3_priceOf_55, sX3_priceOf_56, sX3_priceOf_58, sX3_priceOf_59, sX3_priceOf_60, sX3_priceOf_63, sX3_priceOf_64, sX3_priceOf_66, sX3_priceOf_67, sX3_priceOf_68, sX3_priceOf_69, sX3_priceOf_72, sX3_priceOf_73, sX3_priceOf_76, sX3_priceOf_77, sX3_priceOf_78, sX3_priceOf_81, sX3_priceOf_84, sX3_priceOf_85, sX3_priceOf_87, sX3_priceOf_90, kI_i, kL_l, kV_v, am_rv_s, am_kl_i, am_kl_r, am_kl_n, am_kl_l, true_and, and_true, and_self, true_or, or_true, implies_true, forall_const, not_true_eq_false, not_false_eq_true, false_implies, true_implies, if_true, if_false, Bool.true_eq_false, Bool.false_eq_true, ob_392, h2, i0, h1, il, r_392_1, gR_sI, z0, z1, z2, z3, z4, z5, w0, w1, w2, w3, w4, w5, hm, r_392_0, q2, iz, nI_clamp, r0, oo, e, c_within]
/-- what a deed of a piece costs -/
noncomputable def costA (LL : List (List Nat)) (h : Int32) (S : Sg) (y n b : Int32) : Int32 := if 0 ≤ y ∧ y < nI S.1.length ∧ 0 ≤ n ∧ n < 12 ∧ 0 ≤ b ∧ b ≤ 5 then prc LL h (sf S.1 y.toNatClampNeg) (pf S.1 y.toNatClampNeg) (xf S.1 y.toNatClampNeg) n b (nI S.2.2.2.1) else -1
theorem LbC_cp {Y : Nat → Nat → Prop} (hF : Fw Y M N) (hY : ∀ c j, Y c j → c < 392 ∨ 406 < c) (hb : LbC M LL h) : LbC N LL h := LbC_Fw hF (fun c j hc z => by have := hY c j z; omega) hb
theorem c_cost {y n b : Int32} (hW : WR M) (hs : StC M 3 ap lim S) (hl : S.1.length ≤ 12) (hw : WFl S.1) (hb : LbC M LL h) : ∃ M', (∀ d (Q : am_Q), am_big (d + 5) mX10_cost [.ref 0, .int y, .int n, .int b] 488 M Q = Q (some (.int (costA LL h S y n b))) M') ∧ Fw XPr M M' := by
  have hL := StC_LH hs
  have ha := fun d (Q : am_Q) => c_hasL (d := d) (Q := Q) (y := y) hL
  have g5 := hs.2.2.2.2.1
  have ht := hs.2.2.2.2.2.2.2.2
  unfold costA
  by_cases c : 0 ≤ y ∧ y < nI S.1.length
  · obtain ⟨e, he, rfl⟩ := deed_x (by omega) c
    have cd := decide_eq_true c
    by_cases c1 : n < 0
    · refine ⟨M, fun d Q => ?_, Fw.rf⟩
      rw [if_neg (fun z => absurd c1 (Int32.not_lt.mpr z.2.2.1)), eX10_cost]
      simp (disch := (first | assumption | omega | decide)) only [sX10_cost_0, sX10_cost_1, sX10_cost_4, sX10_cost_7, sX10_cost_8, sX10_cost_11, sX10_cost_14, sX10_cost_15, sX10_cost_18, sX10_cost_19, sX10_cost_21, sX10_cost_24, sX10_cost_25, sX10_cost_28, sX10_cost_29, sX10_cost_30, sX10_cost_33, sX10_cost_34, sX10_cost_35, sX10_cost_36, sX10_cost_39, sX10_cost_42, sX10_cost_44, sX10_cost_45, sX10_cost_48, sX10_cost_50, sX10_cost_53, sX10_cost_54, sX10_cost_55, sX10_cost_57, sX10_cost_60, sX10_cost_61, sX10_cost_62, sX10_cost_64, sX10_cost_67, sX10_cost_68, sX10_cost_69, sX10_cost_70, sX10_cost_71, sX10_cost_72, sX10_cost_75, sX10_cost_78, sX10_cost_81, kI_i, kL_l, kV_v, am_rv_s, am_kl_i, am_kl_r, am_kl_n, am_kl_l, true_and, and_true, and_self, true_or, or_true, implies_true, forall_const, not_true_eq_false, not_false_eq_true, false_implies, true_implies, if_true, if_false, Bool.true_eq_false, Bool.false_eq_true, ob_0, ob_3, ob_4, r_0_1, r_3_0, ha, cd, bz_t, i01, c1]
    · by_cases c2 : 12 ≤ n
      · refine ⟨M, fun d Q => ?_, Fw.rf⟩
        rw [if_neg (fun z => absurd z.2.2.2.1 (Int32.not_lt.mpr c2)), eX10_cost]
        simp (disch := (first | assumption | omega | decide)) only [sX10_cost_0, sX10_cost_1, sX10_cost_4, sX10_cost_7, sX10_cost_8, sX10_cost_11, sX10_cost_14, sX10_cost_15, sX10_cost_18, sX10_cost_19, sX10_cost_21, sX10_cost_24, sX10_cost_25, sX10_cost_28, sX10_cost_29, sX10_cost_30, sX10_cost_33, sX10_cost_34, sX10_cost_35, sX10_cost_36, sX10_cost_39, sX10_cost_42, sX10_cost_44, sX10_cost_45, sX10_cost_48, sX10_cost_50, sX10_cost_53, sX10_cost_54, sX10_cost_55, sX10_cost_57, sX10_cost_60, sX10_cost_61, sX10_cost_62, sX10_cost_64, sX10_cost_67, sX10_cost_68, sX10_cost_69, sX10_cost_70, sX10_cost_71, sX10_cost_72, sX10_cost_75, sX10_cost_78, sX10_cost_81, kI_i, kL_l, kV_v, am_rv_s, am_kl_i, am_kl_r, am_kl_n, am_kl_l, true_and, and_true, and_self, true_or, or_true, implies_true, forall_const, not_true_eq_false, not_false_eq_true, false_implies, true_implies, if_true, if_false, Bool.true_eq_false, Bool.false_eq_true, ob_0, ob_3, ob_4, r_0_1, r_3_0, ha, cd, bz_t, i01, c1, c2]
      · by_cases c3 : b < 0
        · refine ⟨M, fun d Q => ?_, Fw.rf⟩
          rw [if_neg (fun z => absurd c3 (Int32.not_lt.mpr z.2.2.2.2.1)), eX10_cost]
          simp (disch := (first | assumption | omega | decide)) only [sX10_cost_0, sX10_cost_1, sX10_cost_4, sX10_cost_7, sX10_cost_8, sX10_cost_11, sX10_cost_14, sX10_cost_15, sX10_cost_18, sX10_cost_19, sX10_cost_21, sX10_cost_24, sX10_cost_25, sX10_cost_28, sX10_cost_29, sX10_cost_30, sX10_cost_33, sX10_cost_34, sX10_cost_35, sX10_cost_36, sX10_cost_39, sX10_cost_42, sX10_cost_44, sX10_cost_45, sX10_cost_48, sX10_cost_50, sX10_cost_53, sX10_cost_54, sX10_cost_55, sX10_cost_57, sX10_cost_60, sX10_cost_61, sX10_cost_62, sX10_cost_64, sX10_cost_67, sX10_cost_68, sX10_cost_69, sX10_cost_70, sX10_cost_71, sX10_cost_72, sX10_cost_75, sX10_cost_78, sX10_cost_81, kI_i, kL_l, kV_v, am_rv_s, am_kl_i, am_kl_r, am_kl_n, am_kl_l, true_and, and_true, and_self, true_or, or_true, implies_true, forall_const, not_true_eq_false, not_false_eq_true, false_implies, true_implies, if_true, if_false, Bool.true_eq_false, Bool.false_eq_true, ob_0, ob_3, ob_4, r_0_1, r_3_0, ha, cd, bz_t, i01, c1, c2, c3]
        · by_cases c4 : b ≤ 5
          · obtain ⟨n', hn', rfl⟩ := nI_of c1
            obtain ⟨b', hb', rfl⟩ := nI_of c3
            have hn : n' < 12 := by have := Int32.not_le.mp c2; rwa [show (12 : Int32) = nI 12 from rfl, nI_ltE hn' (by omega)] at this
            have hbb : b' ≤ 5 := by rwa [show (5 : Int32) = nI 5 from rfl, nI_leE hb' (by omega)] at c4
            obtain ⟨s, p, x, e1, e2, e3, b1, b2, b3, _⟩ := WF_at hw he
            obtain ⟨M', ep, f1⟩ := c_priceOf (so := s) (pa := p) (x := x) (n := n') (b := b') (t := S.2.2.2.1) hW hb ⟨by omega, by omega, by omega, by omega, by omega, by omega⟩
            refine ⟨M', fun d Q => ?_, f1⟩
            obtain ⟨q1, q2⟩ := LH_s hL e he
            have q3 := LH_x hL e he
            simp only [Nat.reduceAdd] at q1 q2 q3
            rw [e1] at q1; rw [e2] at q2; rw [e3] at q3
            rw [if_pos ⟨c.1, c.2, by rw [nI_le0 (by omega)]; trivial, by rw [show (12 : Int32) = nI 12 from rfl, nI_ltE hn' (by omega)]; exact hn, by rw [nI_le0 (by omega)]; trivial, c4⟩, nI_clamp (by omega), e1, e2, e3, eX10_cost]
            simp (disch := (first | assumption | omega | decide)) only [sX10_cost_0, sX10_cost_1, sX10_cost_4, sX10_cost_7, sX10_cost_8, sX10_cost_11, sX10_cost_14, sX10_cost_15, sX10_cost_18, sX10_cost_19, sX10_cost_21, sX10_cost_24, sX10_cost_25, sX10_cost_28, sX10_cost_29, sX10_cost_30, sX10_cost_33, sX10_cost_34, sX10_cost_35, sX10_cost_36, sX10_cost_39, sX10_cost_42, sX10_cost_44, sX10_cost_45, sX10_cost_48, sX10_cost_50, sX10_cost_53, sX10_cost_54, sX10_cost_55, sX10_cost_57, sX10_cost_60, sX10_cost_61, sX10_cost_62, sX10_cost_64, sX10_cost_67, sX10_cost_68, sX10_cost_69, sX10_cost_70, sX10_cost_71, sX10_cost_72, sX10_cost_75, sX10_cost_78, sX10_cost_81, kI_i, kL_l, kV_v, am_rv_s, am_kl_i, am_kl_r, am_kl_n, am_kl_l, true_and, and_true, and_self, true_or, or_true, implies_true, forall_const, not_true_eq_false, not_false_eq_true, false_implies, true_implies, if_true, if_false, Bool.true_eq_false, Bool.false_eq_true, ob_0, ob_3, ob_4, ob_392, r_0_1, r_3_0, r_4_0, r_4_1, r_4_2, r_0_6, in_5, in_6, in_7, nI_clamp, ha, cd, bz_t, i01, c1, c2, c3, c4, q1, q2, q3, g5, ep]
          · refine ⟨M, fun d Q => ?_, Fw.rf⟩
            rw [if_neg (fun z => c4 z.2.2.2.2.2), eX10_cost]
            simp (disch := (first | assumption | omega | decide)) only [sX10_cost_0, sX10_cost_1, sX10_cost_4, sX10_cost_7, sX10_cost_8, sX10_cost_11, sX10_cost_14, sX10_cost_15, sX10_cost_18, sX10_cost_19, sX10_cost_21, sX10_cost_24, sX10_cost_25, sX10_cost_28, sX10_cost_29, sX10_cost_30, sX10_cost_33, sX10_cost_34, sX10_cost_35, sX10_cost_36, sX10_cost_39, sX10_cost_42, sX10_cost_44, sX10_cost_45, sX10_cost_48, sX10_cost_50, sX10_cost_53, sX10_cost_54, sX10_cost_55, sX10_cost_57, sX10_cost_60, sX10_cost_61, sX10_cost_62, sX10_cost_64, sX10_cost_67, sX10_cost_68, sX10_cost_69, sX10_cost_70, sX10_cost_71, sX10_cost_72, sX10_cost_75, sX10_cost_78, sX10_cost_81, kI_i, kL_l, kV_v, am_rv_s, am_kl_i, am_kl_r, am_kl_n, am_kl_l, true_and, and_true, and_self, true_or, or_true, implies_true, forall_const, not_true_eq_false, not_false_eq_true, false_implies, true_implies, if_true, if_false, Bool.true_eq_false, Bool.false_eq_true, ob_0, ob_3, ob_4, r_0_1, r_3_0, ha, cd, bz_t, i01, c1, c2, c3, c4]
  · refine ⟨M, fun d Q => ?_, Fw.rf⟩
    have cd := decide_eq_false c
    rw [if_neg (fun z => c ⟨z.1, z.2.1⟩), eX10_cost]
    simp (disch := (first | assumption | omega | decide)) only [sX10_cost_0, sX10_cost_1, sX10_cost_4, sX10_cost_7, sX10_cost_8, sX10_cost_11, sX10_cost_14, sX10_cost_15, sX10_cost_18, sX10_cost_19, sX10_cost_21, sX10_cost_24, sX10_cost_25, sX10_cost_28, sX10_cost_29, sX10_cost_30, sX10_cost_33, sX10_cost_34, sX10_cost_35, sX10_cost_36, sX10_cost_39, sX10_cost_42, sX10_cost_44, sX10_cost_45, sX10_cost_48, sX10_cost_50, sX10_cost_53, sX10_cost_54, sX10_cost_55, sX10_cost_57, sX10_cost_60, sX10_cost_61, sX10_cost_62, sX10_cost_64, sX10_cost_67, sX10_cost_68, sX10_cost_69, sX10_cost_70, sX10_cost_71, sX10_cost_72, sX10_cost_75, sX10_cost_78, sX10_cost_81, kI_i, kL_l, kV_v, am_rv_s, am_kl_i, am_kl_r, am_kl_n, am_kl_l, true_and, and_true, and_self, true_or, or_true, implies_true, forall_const, not_true_eq_false, not_false_eq_true, false_implies, true_implies, if_true, if_false, Bool.true_eq_false, Bool.false_eq_true, ob_0, ob_3, ob_4, r_0_1, r_3_0, ha, cd, bz_f]
end
