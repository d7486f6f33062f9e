/-! the reference's rows: a state at an offset -/
def StM (M : am_M) (o off ap : Nat) (S : Sg) : Prop := S.1.length ≤ 12 ∧ gI M o (off + 36) = nI S.1.length ∧ (∀ k (t : Dd), S.1[k]? = some t → gI M o (off + 3 * k) = t.1 ∧ gI M o (off + 3 * k + 1) = t.2.1 ∧ gI M o (off + 3 * k + 2) = t.2.2) ∧ (∀ i, i < ap → gI M o (off + 37 + i) = S.2.1 i) ∧ (gI M o (off + 41) = nI S.2.2.1 ∧ S.2.2.1 < 16 ∧ ap ≤ 4) ∧ gI M o (off + 42) = nI S.2.2.2.1 ∧ gI M o (off + 43) = nI S.2.2.2.2.length ∧ S.2.2.2.2.length ≤ 60 ∧ ∀ i (h : i < S.2.2.2.2.length), gI M o (off + 44 + 2 * (S.2.2.2.2.length - 1 - i)) = S.2.2.2.2[i].1 ∧ gI M o (off + 45 + 2 * (S.2.2.2.2.length - 1 - i)) = S.2.2.2.2[i].2
section
variable {M N : am_M} {o o' off off' ap k j n : Nat} {S : Sg} {d : Nat} {Q : am_Q}
/-- a state is its 164 places -/
theorem StM_of (hI : ∀ j, j < 164 → gI N o' (off' + j) = gI M o (off + j)) (h : StM M o off ap S) : StM N o' off' ap S := by
  obtain ⟨h1, h2, h3, h4, ⟨h5, h6, h7⟩, h8, h9, h10, h11⟩ := h
  refine ⟨h1, by rw [hI 36 (by omega)]; exact h2, fun k t hk => ?_, fun i hi => ?_, ⟨by rw [hI 41 (by omega)]; exact h5, h6, h7⟩, by rw [hI 42 (by omega)]; exact h8, by rw [hI 43 (by omega)]; exact h9, h10, fun i hi => ?_⟩
  · have hk' := (List.getElem?_eq_some_iff.mp hk).1
    have := h3 k t hk
    rw [hI (3 * k) (by omega), show off' + 3 * k + 1 = off' + (3 * k + 1) by omega, hI (3 * k + 1) (by omega), show off' + 3 * k + 2 = off' + (3 * k + 2) by omega, hI (3 * k + 2) (by omega)]
    exact this
  · have := h4 i hi
    rw [show off' + 37 + i = off' + (37 + i) by omega, hI (37 + i) (by omega), show off + (37 + i) = off + 37 + i by omega]
    exact this
  · have := h11 i hi
    rw [show off' + 44 + 2 * (S.2.2.2.2.length - 1 - i) = off' + (44 + 2 * (S.2.2.2.2.length - 1 - i)) by omega, hI _ (by omega), show off' + 45 + 2 * (S.2.2.2.2.length - 1 - i) = off' + (45 + 2 * (S.2.2.2.2.length - 1 - i)) by omega, hI _ (by omega), ← Nat.add_assoc, ← Nat.add_assoc]
    exact this
theorem n36 : (36 : Int32) = nI 36 := rfl
theorem n37 : (37 : Int32) = nI 37 := rfl
theorem n41 : (41 : Int32) = nI 41 := rfl
theorem n42 : (42 : Int32) = nI 42 := rfl
theorem n43 : (43 : Int32) = nI 43 := rfl
theorem n44 : (44 : Int32) = nI 44 := rfl
theorem n45 : (45 : Int32) = nI 45 := rfl
theorem n164 : (164 : Int32) = nI 164 := rfl
theorem nI_m3 (k : Nat) : 3 * nI k = nI (3 * k) := by rw [show (3 : Int32) = nI 3 from rfl, pk_mul]
theorem nI_m2 (k : Nat) : 2 * nI k = nI (2 * k) := by rw [show (2 : Int32) = nI 2 from rfl, pk_mul]
theorem nI_m164 (k : Nat) : nI 164 * nI k = nI (164 * k) := pk_mul 164 k
theorem nI_3 (k : Nat) : nI k + 3 = nI (k + 3) := nI_add k 3
/-- the rows of the acts -/
def PaM (M : am_M) (ap : Nat) (P : List Sg) : Prop := gI M 457 41 = nI P.length ∧ P.length ≤ 40 ∧ ∀ i (h : i < P.length), StM M 476 (164 * i) ap P[i]
theorem m_remember {P : List Sg} (hW : WR M) (hP : PaM M ap P) (h : StM M 465 0 ap S) : ∃ M', (∀ d (Q : am_Q), am_big (d + 1) mX11_remember [.ref 457] 488 M Q = Q none M') ∧ PaM M' ap (paA P S) ∧ Fw (fun c j => (c = 457 ∧ j = 41) ∨ c = 476) M M' := by
  obtain ⟨g1, hl, hs⟩ := hP
  have key : ∀ (M1 : am_M) (P1 : List Sg), P1.length < 40 → WR M1 → gI M1 457 41 = nI P1.length → (∀ i (h : i < P1.length), StM M1 476 (164 * i) ap P1[i]) → StM M1 465 0 ap S → ∃ M', (∀ d (Q : am_Q), ok d mX11_remember 488 Q 488 0 0 52 [some (.ref 457), some (.int (nI 0))] [] M1 = Q none M') ∧ PaM M' ap (P1 ++ [S]) ∧ Fw (fun c j => (c = 457 ∧ j = 41) ∨ c = 476) M1 M' := by
    intro M1 P1 hl1 hW1 k1 ks k3
    refine ⟨sI (cpI M1 465 0 476 (164 * P1.length) 164) 457 41 (nI (P1.length + 1)), fun d Q => ?_, ⟨?_, by simp; omega, fun i hi => ?_⟩, (Fw.c (fun k => Or.inr rfl)).tr (Fw.s (Or.inl ⟨rfl, rfl⟩))⟩
    · have l0 := loop0 (P := fun k => ok d mX11_remember 488 Q 488 0 0 52 [some (.ref 457), some (.int (nI k))] [] (cpI M1 465 0 476 (164 * P1.length) k)) (n := 164) (fun k hk => by
        have e0 : (nI 164 ≤ nI k) = False := by rw [nI_leE (by omega) (by omega)]; exact eq_false (by omega)
        have g2 : gI (cpI M1 465 0 476 (164 * P1.length) k) 457 41 = nI P1.length := by rw [gI_cpo (by omega)]; exact k1
        have g3 : gI (cpI M1 465 0 476 (164 * P1.length) k) 465 k = gI M1 465 k := gI_cpo (by omega)
        have sw : sI (cpI M1 465 0 476 (164 * P1.length) k) 476 (164 * P1.length + k) (gI M1 465 k) = cpI M1 465 0 476 (164 * P1.length) (k + 1) := M_ext (fun c i => by
          rw [gI_sI, gI_cpI, gI_cpI]
          by_cases z : c = 476 ∧ i = 164 * P1.length + k
          · rw [if_pos z, if_pos (by omega)]; congr 1; omega
          · rw [if_neg z]
            by_cases z2 : c = 476 ∧ 164 * P1.length ≤ i ∧ i < 164 * P1.length + k
            · rw [if_pos z2, if_pos (by omega)]
            · rw [if_neg z2, if_neg (by omega)]) (fun _ _ => rfl) (fun _ _ => rfl)
        show ok d mX11_remember 488 Q 488 0 0 52 _ [] _ = ok d mX11_remember 488 Q 488 0 0 52 _ [] _
        rw [sX11_remember_52]
        simp (disch := (first | assumption | omega | decide)) only [sX11_remember_0, sX11_remember_1, sX11_remember_4, sX11_remember_6, sX11_remember_9, sX11_remember_10, sX11_remember_12, sX11_remember_15, sX11_remember_18, sX11_remember_19, sX11_remember_22, sX11_remember_23, sX11_remember_24, sX11_remember_27, sX11_remember_28, sX11_remember_31, sX11_remember_32, sX11_remember_33, sX11_remember_34, sX11_remember_37, sX11_remember_40, sX11_remember_41, sX11_remember_42, sX11_remember_45, sX11_remember_46, sX11_remember_47, sX11_remember_50, sX11_remember_51, sX11_remember_53, sX11_remember_56, sX11_remember_59, sX11_remember_60, sX11_remember_63, sX11_remember_66, sX11_remember_67, sX11_remember_70, sX11_remember_71, sX11_remember_72, sX11_remember_73, sX11_remember_74, sX11_remember_77, sX11_remember_78, sX11_remember_79, sX11_remember_80, sX11_remember_83, sX11_remember_86, sX11_remember_87, sX11_remember_88, sX11_remember_91, sX11_remember_92, sX11_remember_93, sX11_remember_96, kI_i, kL_l, kV_v, am_rv_s, am_kl_i, am_kl_r, am_kl_n, am_kl_l, true_and, and_true, and_self, true_or, or_true, implies_true, forall_const, not_true_eq_false, not_false_eq_true, false_implies, true_implies, if_true, if_false, Bool.true_eq_false, Bool.false_eq_true, n164, e0, ob_457, gR_cpI, r_457_40, r_457_27, g2, nI_m164, nI_add, iw_476, in_465, nI_clamp, g3, sw, nI_1])
      have l1 : cpI M1 465 0 476 (164 * P1.length) 0 = M1 := M_ext (fun c i => by rw [gI_cpI, if_neg (by omega)]) (fun _ _ => rfl) (fun _ _ => rfl)
      simp only [l1] at l0
      rw [l0, sX11_remember_52]
      have g2 : gI (cpI M1 465 0 476 (164 * P1.length) 164) 457 41 = nI P1.length := by rw [gI_cpo (by omega)]; exact k1
      simp (disch := (first | assumption | omega | decide)) only [sX11_remember_0, sX11_remember_1, sX11_remember_4, sX11_remember_6, sX11_remember_9, sX11_remember_10, sX11_remember_12, sX11_remember_15, sX11_remember_18, sX11_remember_19, sX11_remember_22, sX11_remember_23, sX11_remember_24, sX11_remember_27, sX11_remember_28, sX11_remember_31, sX11_remember_32, sX11_remember_33, sX11_remember_34, sX11_remember_37, sX11_remember_40, sX11_remember_41, sX11_remember_42, sX11_remember_45, sX11_remember_46, sX11_remember_47, sX11_remember_50, sX11_remember_51, sX11_remember_53, sX11_remember_56, sX11_remember_59, sX11_remember_60, sX11_remember_63, sX11_remember_66, sX11_remember_67, sX11_remember_70, sX11_remember_71, sX11_remember_72, sX11_remember_73, sX11_remember_74, sX11_remember_77, sX11_remember_78, sX11_remember_79, sX11_remember_80, sX11_remember_83, sX11_remember_86, sX11_remember_87, sX11_remember_88, sX11_remember_91, sX11_remember_92, sX11_remember_93, sX11_remember_96, kI_i, kL_l, kV_v, am_rv_s, am_kl_i, am_kl_r, am_kl_n, am_kl_l, true_and, and_true, and_self, true_or, or_true, implies_true, forall_const, not_true_eq_false, not_false_eq_true, false_implies, true_implies, if_true, if_false, Bool.true_eq_false, Bool.false_eq_true, n164, Int32.le_refl, ob_457, g2, nI_1]
    · rw [gI_e]; simp
    · by_cases hil : i < P1.length
      · rw [List.getElem_append_left hil]
        exact StM_of (M := M1) (fun j hj => by rw [gI_o (by omega), gI_cpu (by omega)]) (ks i hil)
      · have hie : i = P1.length := by simp at hi; omega
        subst hie
        rw [List.getElem_append_right (Nat.le_refl _)]
        simp only [Nat.sub_self, List.getElem_cons_zero]
        exact StM_of (M := M1) (o := 465) (off := 0) (fun j hj => by rw [gI_o (by omega), gI_cpi (by omega) (by omega)]; congr 1; omega) k3
  unfold paA
  by_cases c1 : P.length = 40
  · rw [if_pos c1]
    have g2' : gI M 457 41 = 40 := by rw [g1, c1]; rfl
    have hdl : (P.drop 1).length = 39 := by simp; omega
    -- all rows move down by one
    generalize hM1 : fl M 476 6396 (fun k => gI M 476 (k + 164)) = M1
    obtain ⟨M', e, r1, r2⟩ := key (sI M1 457 41 39) (P.drop 1) (by omega) (by rw [← hM1]; exact hW) (by rw [gI_e, hdl]; rfl) (fun i hi => by
      rw [List.getElem_drop]
      refine StM_of (M := M) (o := 476) (off := 164 * (1 + i)) (fun j hj => ?_) (hs (1 + i) (by omega))
      rw [gI_o (by omega), ← hM1, gI_fl (by omega)]
      congr 1
      omega) (StM_of (M := M) (o := 465) (off := 0) (fun j hj => by rw [gI_o (by omega), ← hM1, gI_fn (by omega)]) h)
    have f1 : Fw (fun c j => (c = 457 ∧ j = 41) ∨ c = 476) M (sI M1 457 41 39) := by
      rw [← hM1]
      exact (Fw.f (fun k _ => Or.inr rfl)).tr (Fw.s (Or.inl ⟨rfl, rfl⟩))
    refine ⟨M', fun d Q => ?_, r1, f1.tr r2⟩
    have z39 : (40 : Int32) - 1 = 39 := by decide
    have n6396 : (6396 : Int32) = nI 6396 := rfl
    rw [eX11_remember]
    simp (disch := (first | assumption | omega | decide)) only [sX11_remember_0, sX11_remember_1, sX11_remember_4, sX11_remember_6, sX11_remember_9, sX11_remember_10, sX11_remember_12, sX11_remember_15, sX11_remember_18, sX11_remember_19, sX11_remember_22, sX11_remember_23, sX11_remember_24, sX11_remember_27, sX11_remember_28, sX11_remember_31, sX11_remember_32, sX11_remember_33, sX11_remember_34, sX11_remember_37, sX11_remember_40, sX11_remember_41, sX11_remember_42, sX11_remember_45, sX11_remember_46, sX11_remember_47, sX11_remember_50, sX11_remember_51, sX11_remember_53, sX11_remember_56, sX11_remember_59, sX11_remember_60, sX11_remember_63, sX11_remember_66, sX11_remember_67, sX11_remember_70, sX11_remember_71, sX11_remember_72, sX11_remember_73, sX11_remember_74, sX11_remember_77, sX11_remember_78, sX11_remember_79, sX11_remember_80, sX11_remember_83, sX11_remember_86, sX11_remember_87, sX11_remember_88, sX11_remember_91, sX11_remember_92, sX11_remember_93, sX11_remember_96, kI_i, kL_l, kV_v, am_rv_s, am_kl_i, am_kl_r, am_kl_n, am_kl_l, true_and, and_true, and_self, true_or, or_true, implies_true, forall_const, not_true_eq_false, not_false_eq_true, false_implies, true_implies, if_true, if_false, Bool.true_eq_false, Bool.false_eq_true, ob_457, g2']
    have l0 := loop0 (P := fun k => ok d mX11_remember 488 Q 488 0 0 11 [some (.ref 457), some (.int (nI k))] [] (fl M 476 k (fun k => gI M 476 (k + 164)))) (n := 6396) (fun k hk => by
      have e0 : (nI 6396 ≤ nI k) = False := by rw [nI_leE (by omega) (by omega)]; exact eq_false (by omega)
      have g3 : gI (fl M 476 k (fun k => gI M 476 (k + 164))) 476 (k + 164) = gI M 476 (k + 164) := gI_fl_ge (by omega)
      have sw : sI (fl M 476 k (fun k => gI M 476 (k + 164))) 476 k (gI M 476 (k + 164)) = fl M 476 (k + 1) (fun k => gI M 476 (k + 164)) := M_ext (fun c i => by
        rw [gI_sI, gI_fl', gI_fl']
        by_cases z : c = 476 ∧ i = k
        · rw [if_pos z, if_pos (by omega), z.2]
        · rw [if_neg z]
          by_cases z2 : c = 476 ∧ i < k
          · rw [if_pos z2, if_pos (by omega)]
          · rw [if_neg z2, if_neg (by omega)]) (fun _ _ => rfl) (fun _ _ => rfl)
      show ok d mX11_remember 488 Q 488 0 0 11 _ [] _ = ok d mX11_remember 488 Q 488 0 0 11 _ [] _
      rw [sX11_remember_11]
      simp (disch := (first | assumption | omega | decide)) only [sX11_remember_0, sX11_remember_1, sX11_remember_4, sX11_remember_6, sX11_remember_9, sX11_remember_10, sX11_remember_12, sX11_remember_15, sX11_remember_18, sX11_remember_19, sX11_remember_22, sX11_remember_23, sX11_remember_24, sX11_remember_27, sX11_remember_28, sX11_remember_31, sX11_remember_32, sX11_remember_33, sX11_remember_34, sX11_remember_37, sX11_remember_40, sX11_remember_41, sX11_remember_42, sX11_remember_45, sX11_remember_46, sX11_remember_47, sX11_remember_50, sX11_remember_51, sX11_remember_53, sX11_remember_56, sX11_remember_59, sX11_remember_60, sX11_remember_63, sX11_remember_66, sX11_remember_67, sX11_remember_70, sX11_remember_71, sX11_remember_72, sX11_remember_73, sX11_remember_74, sX11_remember_77, sX11_remember_78, sX11_remember_79, sX11_remember_80, sX11_remember_83, sX11_remember_86, sX11_remember_87, sX11_remember_88, sX11_remember_91, sX11_remember_92, sX11_remember_93, sX11_remember_96, kI_i, kL_l, kV_v, am_rv_s, am_kl_i, am_kl_r, am_kl_n, am_kl_l, true_and, and_true, and_self, true_or, or_true, implies_true, forall_const, not_true_eq_false, not_false_eq_true, false_implies, true_implies, if_true, if_false, Bool.true_eq_false, Bool.false_eq_true, n6396, n164, e0, ob_457, gR_fl, r_457_40, nI_add, iw_476, in_476, nI_clamp, g3, sw, nI_1])
    have l1 : fl M 476 0 (fun k => gI M 476 (k + 164)) = M := fl_id (fun k hk => by omega)
    simp only [l1] at l0
    refine l0.trans ?_
    have g4 : gI (fl M 476 6396 (fun k => gI M 476 (k + 164))) 457 41 = 40 := by rw [gI_fn (by omega)]; exact g2'
    rw [sX11_remember_11]
    simp (disch := (first | assumption | omega | decide)) only [sX11_remember_0, sX11_remember_1, sX11_remember_4, sX11_remember_6, sX11_remember_9, sX11_remember_10, sX11_remember_12, sX11_remember_15, sX11_remember_18, sX11_remember_19, sX11_remember_22, sX11_remember_23, sX11_remember_24, sX11_remember_27, sX11_remember_28, sX11_remember_31, sX11_remember_32, sX11_remember_33, sX11_remember_34, sX11_remember_37, sX11_remember_40, sX11_remember_41, sX11_remember_42, sX11_remember_45, sX11_remember_46, sX11_remember_47, sX11_remember_50, sX11_remember_51, sX11_remember_53, sX11_remember_56, sX11_remember_59, sX11_remember_60, sX11_remember_63, sX11_remember_66, sX11_remember_67, sX11_remember_70, sX11_remember_71, sX11_remember_72, sX11_remember_73, sX11_remember_74, sX11_remember_77, sX11_remember_78, sX11_remember_79, sX11_remember_80, sX11_remember_83, sX11_remember_86, sX11_remember_87, sX11_remember_88, sX11_remember_91, sX11_remember_92, sX11_remember_93, sX11_remember_96, kI_i, kL_l, kV_v, am_rv_s, am_kl_i, am_kl_r, am_kl_n, am_kl_l, true_and, and_true, and_self, true_or, or_true, implies_true, forall_const, not_true_eq_false, not_false_eq_true, false_implies, true_implies, if_true, if_false, Bool.true_eq_false, Bool.false_eq_true, n6396, Int32.le_refl, ob_457, g4, z39]
    rw [hM1]
    exact e d Q
  · rw [if_neg c1]
    obtain ⟨M', e, r1, r2⟩ := key M P (by omega) hW g1 hs h
    refine ⟨M', fun d Q => ?_, r1, r2⟩
    have g2' : (nI P.length = 40) = False := by rw [show (40 : Int32) = nI 40 from rfl, nI_eqE (by omega) (by omega)]; exact eq_false c1
    rw [eX11_remember]
    simp (disch := (first | assumption | omega | decide)) only [sX11_remember_0, sX11_remember_1, sX11_remember_4, sX11_remember_6, sX11_remember_9, sX11_remember_10, sX11_remember_12, sX11_remember_15, sX11_remember_18, sX11_remember_19, sX11_remember_22, sX11_remember_23, sX11_remember_24, sX11_remember_27, sX11_remember_28, sX11_remember_31, sX11_remember_32, sX11_remember_33, sX11_remember_34, sX11_remember_37, sX11_remember_40, sX11_remember_41, sX11_remember_42, sX11_remember_45, sX11_remember_46, sX11_remember_47, sX11_remember_50, sX11_remember_51, sX11_remember_53, sX11_remember_56, sX11_remember_59, sX11_remember_60, sX11_remember_63, sX11_remember_66, sX11_remember_67, sX11_remember_70, sX11_remember_71, sX11_remember_72, sX11_remember_73, sX11_remember_74, sX11_remember_77, sX11_remember_78, sX11_remember_79, sX11_remember_80, sX11_remember_83, sX11_remember_86, sX11_remember_87, sX11_remember_88, sX11_remember_91, sX11_remember_92, sX11_remember_93, sX11_remember_96, kI_i, kL_l, kV_v, am_rv_s, am_kl_i, am_kl_r, am_kl_n, am_kl_l, true_and, and_true, and_self, true_or, or_true, implies_true, forall_const, not_true_eq_false, not_false_eq_true, false_implies, true_implies, if_true, if_false, Bool.true_eq_false, Bool.false_eq_true, ob_457, g1, g2']
    exact e d Q
end
