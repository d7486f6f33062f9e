/-- the deeds of a row -/
def PcM (M : am_M) (o off : Nat) (l : List Dd) : Prop := l.length ≤ 12 ∧ gI M o (off + 36) = nI l.length ∧ ∀ k (t : Dd), l[k]? = some t → gI M o (off + 3 * k) = t.1 ∧ gI M o (off + 3 * k + 1) = t.2.1 ∧ gI M o (off + 3 * k + 2) = t.2.2
def RW (o : Nat) : Prop := o = 465 ∨ o = 466
section
variable {M N : am_M} {o ap k j n : Nat} {S : Sg} {d : Nat} {Q : am_Q} {l : List Dd}
theorem StM.p {off : Nat} (h : StM M o off ap S) : PcM M o off S.1 := ⟨h.1, h.2.1, h.2.2.1⟩
theorem StM_put {off : Nat} (h : StM M o off ap S) (hp : PcM N o off l) (hI : ∀ j, 37 ≤ j → j < 164 → gI N o (off + j) = gI M o (off + j)) : StM N o off ap (l, S.2) := by
  obtain ⟨h1, h2, h3, h4, ⟨h5, h6, h7⟩, h8, h9, h10, h11⟩ := h
  refine ⟨hp.1, hp.2.1, hp.2.2, fun i hi => ?_, ⟨by rw [hI 41 (by omega) (by omega)]; exact h5, h6, h7⟩, by rw [hI 42 (by omega) (by omega)]; exact h8, by rw [hI 43 (by omega) (by omega)]; exact h9, h10, fun i hi => ?_⟩
  · have := h4 i hi
    rw [Nat.add_assoc, hI (37 + i) (by omega) (by omega), ← Nat.add_assoc]
    exact this
  · have := h11 i hi
    have hi' : i < S.2.2.2.2.length := hi
    rw [show off + 44 + 2 * (S.2.2.2.2.length - 1 - i) = off + (44 + 2 * (S.2.2.2.2.length - 1 - i)) by omega, show off + 45 + 2 * (S.2.2.2.2.length - 1 - i) = off + (45 + 2 * (S.2.2.2.2.length - 1 - i)) by omega] at this ⊢
    rw [hI _ (by omega) (by omega), hI _ (by omega) (by omega)]
    exact this
theorem rw_in (h : RW o) {k : Nat} (hk : k < 164) : am_in 488 M o 1 (nI k) = True := by rcases h with rfl | rfl <;> exact in1 (by omega) rfl hk (by omega)
theorem rw_iw (h : RW o) {k : Nat} (hk : k < 164) : am_iw 488 o 1 (nI k) = True := by rcases h with rfl | rfl <;> exact iw (by omega) rfl hk (by omega)
def is5 (so : Int32) : Prop := so = 0 ∨ so = 1 ∨ so = 2 ∨ so = 3 ∨ so = 4
theorem PcM_add {so pa x : Int32} (h : PcM M o 0 l) (hl : l.length < 12) : PcM (sI (sI (sI (sI M o (3 * l.length) so) o (3 * l.length + 1) pa) o (3 * l.length + 2) x) o 36 (nI (l.length + 1))) o 0 (l ++ [(so, pa, x)]) := by
  obtain ⟨h1, h2, h3⟩ := h
  refine ⟨by simp; omega, by rw [Nat.zero_add, gI_e]; simp, fun k t hk => ?_⟩
  simp only [Nat.zero_add] at h3 ⊢
  by_cases hkl : k < l.length
  · rw [List.getElem?_append_left hkl] at hk
    have := h3 k t hk
    rw [gI_j (by omega), gI_j (by omega), gI_j (by omega), gI_j (by omega), gI_j (by omega), gI_j (by omega), gI_j (by omega), gI_j (by omega), gI_j (by omega), gI_j (by omega), gI_j (by omega), gI_j (by omega)]
    exact this
  · have hke : k = l.length := by
      have := (List.getElem?_eq_some_iff.mp hk).1
      simp at this
      omega
    subst hke
    rw [List.getElem?_append_right (Nat.le_refl _), Nat.sub_self] at hk
    cases hk
    refine ⟨?_, ?_, ?_⟩
    · rw [gI_j (by omega), gI_j (by omega), gI_j (by omega), gI_e]
    · rw [gI_j (by omega), gI_j (by omega), gI_e]
    · rw [gI_j (by omega), gI_e]
theorem tlx_x {so : Int32} (x : Int32) : (if tlx so = true then x else 0) = xdd so x := by unfold tlx xdd; by_cases h : so = 0 ∨ so = 2 ∨ so = 3 <;> simp [h]
theorem m_does {so pa x : Int32} (ho : RW o) (hs : is5 so) (h : PcM M o 0 l) (hl : l.length < 12) : am_big (d + 2) mX11_does [.ref o, .int so, .int pa, .int x] 488 M Q = Q none (sI (sI (sI (sI M o (3 * l.length) so) o (3 * l.length + 1) pa) o (3 * l.length + 2) (xdd so x)) o 36 (nI (l.length + 1))) := by
  have g1 : gI M o 36 = nI l.length := by have := h.2.1; rwa [Nat.zero_add] at this
  have i1 := fun M => rw_in (M := M) ho (k := 36) (by omega)
  have w0 := rw_iw ho (k := 3 * l.length) (by omega)
  have w1 := rw_iw ho (k := 3 * l.length + 1) (by omega)
  have w2 := rw_iw ho (k := 3 * l.length + 2) (by omega)
  have w3 := rw_iw ho (k := 36) (by omega)
  have hx : ∀ d (Q : am_Q) N, am_big (d + 1) mX11_hasX [.int so] 488 N Q = Q (some (.int (bz (tlx so)))) N := fun d Q N => m_hasX hs
  rw [eX11_does, ← tlx_x]
  cases c : tlx so with
  | false => simp (disch := (first | assumption | omega | decide)) only [sX11_does_0, sX11_does_1, sX11_does_2, sX11_does_4, sX11_does_5, sX11_does_6, sX11_does_8, sX11_does_9, sX11_does_11, sX11_does_12, sX11_does_13, sX11_does_14, sX11_does_16, sX11_does_17, sX11_does_18, sX11_does_19, sX11_does_20, sX11_does_21, sX11_does_23, sX11_does_24, sX11_does_25, sX11_does_26, sX11_does_29, sX11_does_32, sX11_does_33, sX11_does_36, sX11_does_37, sX11_does_38, sX11_does_39, sX11_does_41, sX11_does_42, sX11_does_43, sX11_does_44, sX11_does_45, sX11_does_46, kI_i, kL_l, kV_v, am_rv_s, am_kl_i, am_kl_r, am_kl_n, am_kl_l, true_and, and_true, and_self, true_or, or_true, implies_true, forall_const, not_true_eq_false, not_false_eq_true, false_implies, true_implies, if_true, if_false, Bool.true_eq_false, Bool.false_eq_true, n36, i1, nI_clamp, g1, nI_m3, w0, w1, w2, w3, nI_1, nI_2, hx, c, bz_f, gI_j]
  | true => simp (disch := (first | assumption | omega | decide)) only [sX11_does_0, sX11_does_1, sX11_does_2, sX11_does_4, sX11_does_5, sX11_does_6, sX11_does_8, sX11_does_9, sX11_does_11, sX11_does_12, sX11_does_13, sX11_does_14, sX11_does_16, sX11_does_17, sX11_does_18, sX11_does_19, sX11_does_20, sX11_does_21, sX11_does_23, sX11_does_24, sX11_does_25, sX11_does_26, sX11_does_29, sX11_does_32, sX11_does_33, sX11_does_36, sX11_does_37, sX11_does_38, sX11_does_39, sX11_does_41, sX11_does_42, sX11_does_43, sX11_does_44, sX11_does_45, sX11_does_46, kI_i, kL_l, kV_v, am_rv_s, am_kl_i, am_kl_r, am_kl_n, am_kl_l, true_and, and_true, and_self, true_or, or_true, implies_true, forall_const, not_true_eq_false, not_false_eq_true, false_implies, true_implies, if_true, if_false, Bool.true_eq_false, Bool.false_eq_true, n36, i1, nI_clamp, g1, nI_m3, w0, w1, w2, w3, nI_1, nI_2, hx, c, bz_t, i01, gI_j]
/-- the places from 3 e on moved down by three, k of them -/
def gnM (M : am_M) (o e k : Nat) : am_M := cpI M o (3 * e + 3) o (3 * e) k
theorem m_gone {e : Nat} (ho : RW o) (h : PcM M o 0 l) (he : e < l.length) : ∃ M', (∀ d (Q : am_Q), am_big (d + 1) mX11_gone [.ref o, .int (nI e)] 488 M Q = Q none M') ∧ PcM M' o 0 (l.eraseIdx e) ∧ Fw (fun c j => c = o ∧ j ≤ 36) M M' := by
  obtain ⟨h1, h2, h3⟩ := h
  rw [Nat.zero_add] at h2
  have i36 := fun M => rw_in (M := M) ho (k := 36) (by omega)
  have w36 := rw_iw ho (k := 36) (by omega)
  have e1 : (l.eraseIdx e).length = l.length - 1 := by rw [List.length_eraseIdx, if_pos he]
  generalize hM1 : sI M o 36 (nI (l.length - 1)) = M1
  have g36 : gI M1 o 36 = nI (l.length - 1) := by rw [← hM1, gI_e]
  have hlow : ∀ k, k ≠ 36 → gI M1 o k = gI M o k := fun k hk => by rw [← hM1, gI_j hk]
  have hM2 : ∀ k, k ≤ 3 * (l.length - 1 - e) → gI (gnM M1 o e k) o 36 = nI (l.length - 1) := fun k hk => by unfold gnM; rw [gI_cpu (by omega)]; exact g36
  have g4 := hM2 (3 * (l.length - 1 - e)) (Nat.le_refl _)
  generalize hM3 : gnM M1 o e (3 * (l.length - 1 - e)) = M3
  rw [hM3] at g4
  have w0 := rw_iw ho (k := 3 * (l.length - 1)) (by omega)
  have w1 := rw_iw ho (k := 3 * (l.length - 1) + 1) (by omega)
  have w2 := rw_iw ho (k := 3 * (l.length - 1) + 2) (by omega)
  refine ⟨sI (sI (sI M3 o (3 * (l.length - 1)) 0) o (3 * (l.length - 1) + 1) 0) o (3 * (l.length - 1) + 2) 0, fun d Q => ?_, ⟨by omega, ?_, fun k t hk => ?_⟩, ?_⟩
  · have gm : nI l.length - 1 = nI (l.length - 1) := nI_sub1 (by omega)
    rw [eX11_gone]
    simp (disch := (first | assumption | omega | decide)) only [sX11_gone_0, sX11_gone_1, sX11_gone_3, sX11_gone_4, sX11_gone_5, sX11_gone_6, sX11_gone_7, sX11_gone_8, sX11_gone_9, sX11_gone_10, sX11_gone_11, sX11_gone_13, sX11_gone_14, sX11_gone_15, sX11_gone_17, sX11_gone_18, sX11_gone_19, sX11_gone_22, sX11_gone_23, sX11_gone_24, sX11_gone_25, sX11_gone_26, sX11_gone_27, sX11_gone_28, sX11_gone_29, sX11_gone_30, sX11_gone_33, sX11_gone_36, sX11_gone_37, sX11_gone_39, sX11_gone_40, sX11_gone_43, sX11_gone_44, sX11_gone_45, sX11_gone_46, sX11_gone_48, sX11_gone_49, sX11_gone_50, sX11_gone_51, sX11_gone_52, sX11_gone_53, sX11_gone_54, sX11_gone_57, sX11_gone_60, kI_i, kL_l, kV_v, am_rv_s, am_kl_i, am_kl_r, am_kl_n, am_kl_l, true_and, and_true, and_self, true_or, or_true, implies_true, forall_const, not_true_eq_false, not_false_eq_true, false_implies, true_implies, if_true, if_false, Bool.true_eq_false, Bool.false_eq_true, n36, i36, w36, nI_clamp, h2, gm, nI_m3, hM1]
    have l0 := loopU (P := fun k => ok d mX11_gone 488 Q 488 0 0 12 [some (.ref o), some (.int (nI e)), some (.int (nI k))] [] (gnM M1 o e (k - 3 * e))) (lo := 3 * e) (n := 3 * (l.length - 1)) (by omega) (fun k hk1 hk2 => by
      have e0 : (nI (3 * (l.length - 1)) ≤ nI k) = False := by rw [nI_leE (by omega) (by omega)]; exact eq_false (by omega)
      have i1 := fun M => rw_in (M := M) ho (k := k + 3) (by omega)
      have w1 := rw_iw ho (k := k) (by omega)
      have g3 : gI (gnM M1 o e (k - 3 * e)) o (k + 3) = gI M1 o (k + 3) := by unfold gnM; rw [gI_cpu (by omega)]
      have sw : sI (gnM M1 o e (k - 3 * e)) o k (gI M1 o (k + 3)) = gnM M1 o e (k + 1 - 3 * e) := M_ext (fun c i => by
        unfold gnM
        rw [gI_sI, gI_cpI, gI_cpI]
        by_cases z : c = o ∧ i = k
        · rw [if_pos z, if_pos (by omega)]; congr 1; omega
        · rw [if_neg z]
          by_cases z2 : c = o ∧ 3 * e ≤ i ∧ i < 3 * e + (k - 3 * e)
          · rw [if_pos z2, if_pos (by omega)]
          · rw [if_neg z2, if_neg (by omega)]) (fun _ _ => rfl) (fun _ _ => rfl)
      have g4 := hM2 (k - 3 * e) (by omega)
      show ok d mX11_gone 488 Q 488 0 0 12 _ [] _ = ok d mX11_gone 488 Q 488 0 0 12 _ [] _
      rw [sX11_gone_12]
      simp (disch := (first | assumption | omega | decide)) only [sX11_gone_0, sX11_gone_1, sX11_gone_3, sX11_gone_4, sX11_gone_5, sX11_gone_6, sX11_gone_7, sX11_gone_8, sX11_gone_9, sX11_gone_10, sX11_gone_11, sX11_gone_13, sX11_gone_14, sX11_gone_15, sX11_gone_17, sX11_gone_18, sX11_gone_19, sX11_gone_22, sX11_gone_23, sX11_gone_24, sX11_gone_25, sX11_gone_26, sX11_gone_27, sX11_gone_28, sX11_gone_29, sX11_gone_30, sX11_gone_33, sX11_gone_36, sX11_gone_37, sX11_gone_39, sX11_gone_40, sX11_gone_43, sX11_gone_44, sX11_gone_45, sX11_gone_46, sX11_gone_48, sX11_gone_49, sX11_gone_50, sX11_gone_51, sX11_gone_52, sX11_gone_53, sX11_gone_54, sX11_gone_57, sX11_gone_60, kI_i, kL_l, kV_v, am_rv_s, am_kl_i, am_kl_r, am_kl_n, am_kl_l, true_and, and_true, and_self, true_or, or_true, implies_true, forall_const, not_true_eq_false, not_false_eq_true, false_implies, true_implies, if_true, if_false, Bool.true_eq_false, Bool.false_eq_true, n36, i36, nI_clamp, g4, nI_m3, e0, nI_3, i1, w1, g3, sw, nI_1])
    have l1 : gnM M1 o e (3 * e - 3 * e) = M1 := M_ext (fun c i => by unfold gnM; rw [gI_cpI, if_neg (by omega)]) (fun _ _ => rfl) (fun _ _ => rfl)
    simp only [l1] at l0
    refine l0.trans ?_
    rw [show 3 * (l.length - 1) - 3 * e = 3 * (l.length - 1 - e) by omega, hM3, sX11_gone_12]
    have z3 : ((3 : Int32) ≤ 0) = False ∧ ((3 : Int32) ≤ 1) = False ∧ ((3 : Int32) ≤ 2) = False ∧ ((3 : Int32) ≤ 3) = True := ⟨eq_false (by decide), eq_false (by decide), eq_false (by decide), eq_true (by decide)⟩
    have z21 : (2 : Int32) + 1 = 3 := by decide
    simp (disch := (first | assumption | omega | decide)) only [sX11_gone_0, sX11_gone_1, sX11_gone_3, sX11_gone_4, sX11_gone_5, sX11_gone_6, sX11_gone_7, sX11_gone_8, sX11_gone_9, sX11_gone_10, sX11_gone_11, sX11_gone_13, sX11_gone_14, sX11_gone_15, sX11_gone_17, sX11_gone_18, sX11_gone_19, sX11_gone_22, sX11_gone_23, sX11_gone_24, sX11_gone_25, sX11_gone_26, sX11_gone_27, sX11_gone_28, sX11_gone_29, sX11_gone_30, sX11_gone_33, sX11_gone_36, sX11_gone_37, sX11_gone_39, sX11_gone_40, sX11_gone_43, sX11_gone_44, sX11_gone_45, sX11_gone_46, sX11_gone_48, sX11_gone_49, sX11_gone_50, sX11_gone_51, sX11_gone_52, sX11_gone_53, sX11_gone_54, sX11_gone_57, sX11_gone_60, kI_i, kL_l, kV_v, am_rv_s, am_kl_i, am_kl_r, am_kl_n, am_kl_l, true_and, and_true, and_self, true_or, or_true, implies_true, forall_const, not_true_eq_false, not_false_eq_true, false_implies, true_implies, if_true, if_false, Bool.true_eq_false, Bool.false_eq_true, n36, i36, nI_clamp, g4, nI_m3, Int32.le_refl]
    rw [sX11_gone_38]
    simp (disch := (first | assumption | omega | decide)) only [sX11_gone_0, sX11_gone_1, sX11_gone_3, sX11_gone_4, sX11_gone_5, sX11_gone_6, sX11_gone_7, sX11_gone_8, sX11_gone_9, sX11_gone_10, sX11_gone_11, sX11_gone_13, sX11_gone_14, sX11_gone_15, sX11_gone_17, sX11_gone_18, sX11_gone_19, sX11_gone_22, sX11_gone_23, sX11_gone_24, sX11_gone_25, sX11_gone_26, sX11_gone_27, sX11_gone_28, sX11_gone_29, sX11_gone_30, sX11_gone_33, sX11_gone_36, sX11_gone_37, sX11_gone_39, sX11_gone_40, sX11_gone_43, sX11_gone_44, sX11_gone_45, sX11_gone_46, sX11_gone_48, sX11_gone_49, sX11_gone_50, sX11_gone_51, sX11_gone_52, sX11_gone_53, sX11_gone_54, sX11_gone_57, sX11_gone_60, kI_i, kL_l, kV_v, am_rv_s, am_kl_i, am_kl_r, am_kl_n, am_kl_l, true_and, and_true, and_self, true_or, or_true, implies_true, forall_const, not_true_eq_false, not_false_eq_true, false_implies, true_implies, if_true, if_false, Bool.true_eq_false, Bool.false_eq_true, n36, i36, nI_clamp, g4, nI_m3, z3.1, Int32.add_zero, w0, j01]
    rw [sX11_gone_38]
    simp (disch := (first | assumption | omega | decide)) only [sX11_gone_0, sX11_gone_1, sX11_gone_3, sX11_gone_4, sX11_gone_5, sX11_gone_6, sX11_gone_7, sX11_gone_8, sX11_gone_9, sX11_gone_10, sX11_gone_11, sX11_gone_13, sX11_gone_14, sX11_gone_15, sX11_gone_17, sX11_gone_18, sX11_gone_19, sX11_gone_22, sX11_gone_23, sX11_gone_24, sX11_gone_25, sX11_gone_26, sX11_gone_27, sX11_gone_28, sX11_gone_29, sX11_gone_30, sX11_gone_33, sX11_gone_36, sX11_gone_37, sX11_gone_39, sX11_gone_40, sX11_gone_43, sX11_gone_44, sX11_gone_45, sX11_gone_46, sX11_gone_48, sX11_gone_49, sX11_gone_50, sX11_gone_51, sX11_gone_52, sX11_gone_53, sX11_gone_54, sX11_gone_57, sX11_gone_60, kI_i, kL_l, kV_v, am_rv_s, am_kl_i, am_kl_r, am_kl_n, am_kl_l, true_and, and_true, and_self, true_or, or_true, implies_true, forall_const, not_true_eq_false, not_false_eq_true, false_implies, true_implies, if_true, if_false, Bool.true_eq_false, Bool.false_eq_true, n36, i36, nI_clamp, g4, gI_j, nI_m3, z3.2.1, nI_1, w1, j11]
    rw [sX11_gone_38]
    simp (disch := (first | assumption | omega | decide)) only [sX11_gone_0, sX11_gone_1, sX11_gone_3, sX11_gone_4, sX11_gone_5, sX11_gone_6, sX11_gone_7, sX11_gone_8, sX11_gone_9, sX11_gone_10, sX11_gone_11, sX11_gone_13, sX11_gone_14, sX11_gone_15, sX11_gone_17, sX11_gone_18, sX11_gone_19, sX11_gone_22, sX11_gone_23, sX11_gone_24, sX11_gone_25, sX11_gone_26, sX11_gone_27, sX11_gone_28, sX11_gone_29, sX11_gone_30, sX11_gone_33, sX11_gone_36, sX11_gone_37, sX11_gone_39, sX11_gone_40, sX11_gone_43, sX11_gone_44, sX11_gone_45, sX11_gone_46, sX11_gone_48, sX11_gone_49, sX11_gone_50, sX11_gone_51, sX11_gone_52, sX11_gone_53, sX11_gone_54, sX11_gone_57, sX11_gone_60, kI_i, kL_l, kV_v, am_rv_s, am_kl_i, am_kl_r, am_kl_n, am_kl_l, true_and, and_true, and_self, true_or, or_true, implies_true, forall_const, not_true_eq_false, not_false_eq_true, false_implies, true_implies, if_true, if_false, Bool.true_eq_false, Bool.false_eq_true, n36, i36, nI_clamp, g4, gI_j, nI_m3, z3.2.2.1, nI_2, w2, z21]
    rw [sX11_gone_38]
    simp (disch := (first | assumption | omega | decide)) only [sX11_gone_0, sX11_gone_1, sX11_gone_3, sX11_gone_4, sX11_gone_5, sX11_gone_6, sX11_gone_7, sX11_gone_8, sX11_gone_9, sX11_gone_10, sX11_gone_11, sX11_gone_13, sX11_gone_14, sX11_gone_15, sX11_gone_17, sX11_gone_18, sX11_gone_19, sX11_gone_22, sX11_gone_23, sX11_gone_24, sX11_gone_25, sX11_gone_26, sX11_gone_27, sX11_gone_28, sX11_gone_29, sX11_gone_30, sX11_gone_33, sX11_gone_36, sX11_gone_37, sX11_gone_39, sX11_gone_40, sX11_gone_43, sX11_gone_44, sX11_gone_45, sX11_gone_46, sX11_gone_48, sX11_gone_49, sX11_gone_50, sX11_gone_51, sX11_gone_52, sX11_gone_53, sX11_gone_54, sX11_gone_57, sX11_gone_60, kI_i, kL_l, kV_v, am_rv_s, am_kl_i, am_kl_r, am_kl_n, am_kl_l, true_and, and_true, and_self, true_or, or_true, implies_true, forall_const, not_true_eq_false, not_false_eq_true, false_implies, true_implies, if_true, if_false, Bool.true_eq_false, Bool.false_eq_true, z3.2.2.2]
  · rw [Nat.zero_add, gI_j (by omega), gI_j (by omega), gI_j (by omega), g4, e1]
  · have hkl := (List.getElem?_eq_some_iff.mp hk).1
    rw [e1] at hkl
    simp only [Nat.zero_add] at h3 ⊢
    rw [gI_j (by omega), gI_j (by omega), gI_j (by omega), gI_j (by omega), gI_j (by omega), gI_j (by omega), gI_j (by omega), gI_j (by omega), gI_j (by omega), ← hM3]
    unfold gnM
    rw [List.getElem?_eraseIdx] at hk
    by_cases hke : k < e
    · rw [if_pos hke] at hk
      have := h3 k t hk
      rw [gI_cpu (by omega), gI_cpu (by omega), gI_cpu (by omega), hlow _ (by omega), hlow _ (by omega), hlow _ (by omega)]
      exact this
    · rw [if_neg hke] at hk
      have := h3 (k + 1) t hk
      rw [gI_cpi (by omega) (by omega), gI_cpi (by omega) (by omega), gI_cpi (by omega) (by omega), hlow _ (by omega), hlow _ (by omega), hlow _ (by omega), show 3 * e + 3 + (3 * k - 3 * e) = 3 * (k + 1) by omega, show 3 * e + 3 + (3 * k + 1 - 3 * e) = 3 * (k + 1) + 1 by omega, show 3 * e + 3 + (3 * k + 2 - 3 * e) = 3 * (k + 1) + 2 by omega]
      exact this
  · refine Fw.tr (Fw.tr (Fw.tr ?_ (Fw.s (by omega))) (Fw.s (by omega))) (Fw.s (by omega))
    rw [← hM3, ← hM1]
    refine ⟨fun c j hc => ⟨?_, rfl, rfl⟩, fun h => h⟩
    unfold gnM
    rw [gI_cpI, if_neg (by omega), gI_sI, if_neg (by omega)]
end
