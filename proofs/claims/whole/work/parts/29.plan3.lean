def XP (a : Nat) : Nat → Prop := fun b => b = 1 ∨ b = a ∨ b = a + 1 ∨ b = a + 2 ∨ b = a + 3
theorem sk_stop (T : Nat → Int32) : ∀ j p, sk T j p = p + j ∨ ¬ T (sk T j p) = 32
  | 0, p => Or.inl rfl
  | j + 1, p => by
    unfold sk
    split
    · rcases sk_stop T j (p + 1) with h | h
      · exact Or.inl (by omega)
      · exact Or.inr h
    · rename_i h; exact Or.inr h
theorem skp_idem {T : Nat → Int32} {len p : Nat} (h : p ≤ len) : skp T len (skp T len p) = skp T len p := by
  have h1 := sk_ge T (len - p) p
  have h2 := sk_stop T (len - p) p
  show sk T (len - skp T len p) (skp T len p) = skp T len p
  have e : skp T len p = sk T (len - p) p := rfl
  generalize skp T len p = q at *
  rw [← e] at h1 h2
  cases hk : len - q with
  | zero => rfl
  | succ k =>
    unfold sk
    rw [if_neg]
    rcases h2 with h2 | h2
    · omega
    · exact h2
section
variable {d : Nat} {a len : Nat}
theorem Fr_add {M : am_M} {n : Nat} {so pa x : Int32} : Fr (XP a) M (addM M a n so pa x) := by
  unfold addM
  exact (((Fr.st (by unfold XP; omega)).tr (Fr.st (by unfold XP; omega))).tr (Fr.st (by unfold XP; omega))).tr (Fr.st (by unfold XP; omega))
theorem T_Fr {M N : am_M} (h : Fr (XP a) M N) (ha : 3 < a) : gI N 2 = gI M 2 := funext fun j => h.2 2 j (by unfold XP; omega)
theorem l_readFrom (ha : 3 < a) : ∀ (j : Nat) (M : am_M) (p : Nat) (l : List Dd), TP M len p → LH M a l → l.length + j = 16 → ∃ M', (∀ Q, ok (d + 3) mX0_readFrom 488 Q 488 0 0 7 [some (.ref a), some (.ref 1), some (.int (nI l.length))] [] M = Q (some (.int (bz (pln (gI M 2) len j p l).1))) M') ∧ TP M' len (pln (gI M 2) len j p l).2.2 ∧ LH M' a (pln (gI M 2) len j p l).2.1 ∧ Fr (XP a) M M' := by
  intro j
  induction j with
  | zero =>
    intro M p l h hl hj
    have e0 := li_le 16 16 (k := l.length) rfl (by omega) (by omega)
    have e1 : (16 ≤ l.length) = True := eq_true (by omega)
    refine ⟨M, fun Q => ?_, h, hl, Fr.rf⟩
    rw [sX0_readFrom_7]
    simp only [sX0_readFrom_0, sX0_readFrom_1, sX0_readFrom_2, sX0_readFrom_5, sX0_readFrom_6, sX0_readFrom_8, sX0_readFrom_10, sX0_readFrom_13, sX0_readFrom_14, sX0_readFrom_15, sX0_readFrom_18, sX0_readFrom_21, sX0_readFrom_22, sX0_readFrom_23, sX0_readFrom_24, sX0_readFrom_27, sX0_readFrom_28, sX0_readFrom_31, sX0_readFrom_32, sX0_readFrom_33, sX0_readFrom_34, sX0_readFrom_37, sX0_readFrom_39, sX0_readFrom_42, sX0_readFrom_43, sX0_readFrom_45, sX0_readFrom_48, sX0_readFrom_51, sX0_readFrom_52, sX0_readFrom_53, sX0_readFrom_56, sX0_readFrom_59, sX0_readFrom_60, kI_i, kL_l, kV_v, am_rv_s, am_kl_i, am_kl_r, am_kl_n, am_kl_l, true_and, and_true, and_self, true_or, or_true, implies_true, forall_const, not_true_eq_false, not_false_eq_true, false_implies, true_implies, if_true, if_false, Bool.true_eq_false, Bool.false_eq_true, e0, e1, pln, bz_f]
  | succ j ih =>
    intro M p l h hl hj
    have hob1 := ob (a := 1) (c := 9) (by omega) rfl
    have hob := ob (a := a) (c := 0) (by have := hl.1.1.1; omega) hl.1.1.2.1
    have e0 := li_le 16 16 (k := l.length) rfl (by omega) (by omega)
    have e1 : (16 ≤ l.length) = False := eq_false (by omega)
    have hpl := pdd_le (T := gI M 2) h.2.2.2.2
    generalize hr : pdd (gI M 2) len p = r at hpl
    obtain ⟨ok1, so, pa, x, q⟩ := r
    have hcd : ∀ Q, am_big (d + 3) mX0_readDeed [.ref a, .ref 1] 488 M Q = if ok1 = true then Q (some (.int 1)) (addM (sI M 1 2 (nI q)) a l.length so pa x) else Q (some (.int 0)) (sI M 1 2 (nI q)) := fun Q => by
      have := c_readDeed (d := d) (Q := Q) h hl.1 (by omega) (by omega : l.length < 16)
      rw [hr] at this
      exact this
    have hq : q ≤ len := hpl
    cases ok1 with
    | false =>
      refine ⟨sI M 1 2 (nI q), fun Q => ?_, ?_, ?_, ?_⟩
      · rw [sX0_readFrom_7]
        simp only [sX0_readFrom_0, sX0_readFrom_1, sX0_readFrom_2, sX0_readFrom_5, sX0_readFrom_6, sX0_readFrom_8, sX0_readFrom_10, sX0_readFrom_13, sX0_readFrom_14, sX0_readFrom_15, sX0_readFrom_18, sX0_readFrom_21, sX0_readFrom_22, sX0_readFrom_23, sX0_readFrom_24, sX0_readFrom_27, sX0_readFrom_28, sX0_readFrom_31, sX0_readFrom_32, sX0_readFrom_33, sX0_readFrom_34, sX0_readFrom_37, sX0_readFrom_39, sX0_readFrom_42, sX0_readFrom_43, sX0_readFrom_45, sX0_readFrom_48, sX0_readFrom_51, sX0_readFrom_52, sX0_readFrom_53, sX0_readFrom_56, sX0_readFrom_59, sX0_readFrom_60, kI_i, kL_l, kV_v, am_rv_s, am_kl_i, am_kl_r, am_kl_n, am_kl_l, true_and, and_true, and_self, true_or, or_true, implies_true, forall_const, not_true_eq_false, not_false_eq_true, false_implies, true_implies, if_true, if_false, Bool.true_eq_false, Bool.false_eq_true, e0, e1, hob, hcd, pln, hr, bz_f]
      · simp only [pln, hr, if_true]; exact TP_at h hq
      · simp only [pln, hr, if_true]; exact ⟨DL_at hl.1 (by omega), fun k t hk => by rw [gI_o (by omega), gI_o (by omega), gI_o (by omega)]; exact hl.2 k t hk⟩
      · exact Fr.st (by unfold XP; omega)
    | true =>
      have hx : (if so = 0 ∨ so = 2 ∨ so = 3 then x else 0) = x := by have := pdd_x (T := gI M 2) (len := len) (p := p); rw [hr] at this; exact this
      have hl0 : LH (sI M 1 2 (nI q)) a l := ⟨DL_at hl.1 (by omega), fun k t hk => by rw [gI_o (by omega), gI_o (by omega), gI_o (by omega)]; exact hl.2 k t hk⟩
      have hl1 := LH_add (so := so) (pa := pa) (x := x) hl0 (by omega) hx
      have hF1 : Fr (XP a) M (addM (sI M 1 2 (nI q)) a l.length so pa x) := (Fr.st (by unfold XP; omega)).tr Fr_add
      generalize hM1 : addM (sI M 1 2 (nI q)) a l.length so pa x = M1 at *
      have o1 : ∀ k, gI M1 1 k = gI (sI M 1 2 (nI q)) 1 k := fun k => by rw [← hM1]; unfold addM; rw [gI_o (by omega), gI_o (by omega), gI_o (by omega), gI_o (by omega)]
      have h1 : TP M1 len q := ⟨by rw [hF1.R]; exact h.1, by rw [o1, gI_j (by omega)]; exact h.2.1, by rw [o1]; exact gI_e, h.2.2.2.1, hq⟩
      have hT : gI M1 2 = gI M 2 := T_Fr hF1 ha
      have hs := skp_le h1
      rw [hT] at hs
      have h2 : TP (sI M1 1 2 (nI (skp (gI M 2) len q))) len (skp (gI M 2) len q) := TP_at h1 hs
      have hl2 : ∀ v, LH (sI M1 1 2 v) a (l ++ [(so, pa, x)]) := fun v => ⟨DL_at hl1.1 (by omega), fun k t hk => by rw [gI_o (by omega), gI_o (by omega), gI_o (by omega)]; exact hl1.2 k t hk⟩
      have hF2 : ∀ v, Fr (XP a) M (sI M1 1 2 v) := fun v => hF1.tr (Fr.st (by unfold XP; omega))
      have hsz : ∀ v, gI (sI M1 1 2 v) a 3 = nI (l.length + 1) := fun v => by rw [(hl2 v).1.2.1]; simp
      have e16 := li_le 16 16 (k := l.length + 1) rfl (by omega) (by omega)
      have hpk : ∀ Q, am_big (d + 3) mX9_peek [.ref 1] 488 M1 Q = Q (some (.int (sg (gI M 2) len (skp (gI M 2) len q)))) (sI M1 1 2 (nI (skp (gI M 2) len q))) := fun Q => by rw [c_peek h1, hT]
      have hac : ∀ Q, am_big (d + 3) mX9_accept [.ref 1, .int 59] 488 (sI M1 1 2 (nI (skp (gI M 2) len q))) Q = if sg (gI M 2) len (skp (gI M 2) len q) = 59 then Q (some (.int 1)) (sI M1 1 2 (nI (skp (gI M 2) len q + 1))) else Q (some (.int 0)) (sI M1 1 2 (nI (skp (gI M 2) len q))) := fun Q => by rw [c_accept h2, T_at, hT, skp_idem hq, sI_sI, sI_sI]
      by_cases c1 : sg (gI M 2) len (skp (gI M 2) len q) = -1
      · refine ⟨sI M1 1 2 (nI (skp (gI M 2) len q)), fun Q => ?_, ?_, ?_, hF2 _⟩
        · rw [sX0_readFrom_7]
          simp only [sX0_readFrom_0, sX0_readFrom_1, sX0_readFrom_2, sX0_readFrom_5, sX0_readFrom_6, sX0_readFrom_8, sX0_readFrom_10, sX0_readFrom_13, sX0_readFrom_14, sX0_readFrom_15, sX0_readFrom_18, sX0_readFrom_21, sX0_readFrom_22, sX0_readFrom_23, sX0_readFrom_24, sX0_readFrom_27, sX0_readFrom_28, sX0_readFrom_31, sX0_readFrom_32, sX0_readFrom_33, sX0_readFrom_34, sX0_readFrom_37, sX0_readFrom_39, sX0_readFrom_42, sX0_readFrom_43, sX0_readFrom_45, sX0_readFrom_48, sX0_readFrom_51, sX0_readFrom_52, sX0_readFrom_53, sX0_readFrom_56, sX0_readFrom_59, sX0_readFrom_60, kI_i, kL_l, kV_v, am_rv_s, am_kl_i, am_kl_r, am_kl_n, am_kl_l, true_and, and_true, and_self, true_or, or_true, implies_true, forall_const, not_true_eq_false, not_false_eq_true, false_implies, true_implies, if_true, if_false, Bool.true_eq_false, Bool.false_eq_true, e0, e1, hob, hob1, hcd, hpk, pln, hr, c1, bz_t]
          simp
        · simp only [pln, hr, c1]; exact h2
        · simp only [pln, hr, c1]; exact hl2 _
      · by_cases c2 : 16 ≤ l.length + 1
        · refine ⟨sI M1 1 2 (nI (skp (gI M 2) len q)), fun Q => ?_, ?_, ?_, hF2 _⟩
          · rw [sX0_readFrom_7]
            simp only [sX0_readFrom_0, sX0_readFrom_1, sX0_readFrom_2, sX0_readFrom_5, sX0_readFrom_6, sX0_readFrom_8, sX0_readFrom_10, sX0_readFrom_13, sX0_readFrom_14, sX0_readFrom_15, sX0_readFrom_18, sX0_readFrom_21, sX0_readFrom_22, sX0_readFrom_23, sX0_readFrom_24, sX0_readFrom_27, sX0_readFrom_28, sX0_readFrom_31, sX0_readFrom_32, sX0_readFrom_33, sX0_readFrom_34, sX0_readFrom_37, sX0_readFrom_39, sX0_readFrom_42, sX0_readFrom_43, sX0_readFrom_45, sX0_readFrom_48, sX0_readFrom_51, sX0_readFrom_52, sX0_readFrom_53, sX0_readFrom_56, sX0_readFrom_59, sX0_readFrom_60, kI_i, kL_l, kV_v, am_rv_s, am_kl_i, am_kl_r, am_kl_n, am_kl_l, true_and, and_true, and_self, true_or, or_true, implies_true, forall_const, not_true_eq_false, not_false_eq_true, false_implies, true_implies, if_true, if_false, Bool.true_eq_false, Bool.false_eq_true, e0, e1, hob, hob1, hcd, hpk, pln, hr, c1, hsz, e16, c2, bz_f]
            simp
          · simp only [pln, hr, c1, c2, Bool.true_eq_false, if_false, if_true]; exact h2
          · simp only [pln, hr, c1, c2, Bool.true_eq_false, if_false, if_true]; exact hl2 _
        · by_cases c3 : sg (gI M 2) len (skp (gI M 2) len q) = 59
          · have hlt : skp (gI M 2) len q < len := by
              unfold sg at c3
              split at c3
              · assumption
              · exact absurd c3 (by decide)
            have hT2 : ∀ v, gI (sI M1 1 2 v) 2 = gI M 2 := fun v => T_at.trans hT
            obtain ⟨M', e, t, lh, fr⟩ := ih (sI M1 1 2 (nI (skp (gI M 2) len q + 1))) (skp (gI M 2) len q + 1) (l ++ [(so, pa, x)]) (TP_at h1 (by omega)) (hl2 _) (by simp; omega)
            rw [hT2] at e t lh
            have ez : (l ++ [(so, pa, x)]).length = l.length + 1 := by simp
            rw [ez] at e
            refine ⟨M', fun Q => ?_, ?_, ?_, (hF2 _).tr fr⟩
            · rw [sX0_readFrom_7]
              simp only [sX0_readFrom_0, sX0_readFrom_1, sX0_readFrom_2, sX0_readFrom_5, sX0_readFrom_6, sX0_readFrom_8, sX0_readFrom_10, sX0_readFrom_13, sX0_readFrom_14, sX0_readFrom_15, sX0_readFrom_18, sX0_readFrom_21, sX0_readFrom_22, sX0_readFrom_23, sX0_readFrom_24, sX0_readFrom_27, sX0_readFrom_28, sX0_readFrom_31, sX0_readFrom_32, sX0_readFrom_33, sX0_readFrom_34, sX0_readFrom_37, sX0_readFrom_39, sX0_readFrom_42, sX0_readFrom_43, sX0_readFrom_45, sX0_readFrom_48, sX0_readFrom_51, sX0_readFrom_52, sX0_readFrom_53, sX0_readFrom_56, sX0_readFrom_59, sX0_readFrom_60, kI_i, kL_l, kV_v, am_rv_s, am_kl_i, am_kl_r, am_kl_n, am_kl_l, true_and, and_true, and_self, true_or, or_true, implies_true, forall_const, not_true_eq_false, not_false_eq_true, false_implies, true_implies, if_true, if_false, Bool.true_eq_false, Bool.false_eq_true, e0, e1, hob, hob1, hcd, hpk, hac, hr, c1, hsz, e16, c2, c3, nI_1, i01, if_true]
              rw [e]
              simp [pln, hr, c1, c2, c3]
            · simp only [pln, hr, c1, c2, c3, Bool.true_eq_false, if_false, if_true]; exact t
            · simp only [pln, hr, c1, c2, c3, Bool.true_eq_false, if_false, if_true]; exact lh
          · refine ⟨sI M1 1 2 (nI (skp (gI M 2) len q)), fun Q => ?_, ?_, ?_, hF2 _⟩
            · rw [sX0_readFrom_7]
              simp only [sX0_readFrom_0, sX0_readFrom_1, sX0_readFrom_2, sX0_readFrom_5, sX0_readFrom_6, sX0_readFrom_8, sX0_readFrom_10, sX0_readFrom_13, sX0_readFrom_14, sX0_readFrom_15, sX0_readFrom_18, sX0_readFrom_21, sX0_readFrom_22, sX0_readFrom_23, sX0_readFrom_24, sX0_readFrom_27, sX0_readFrom_28, sX0_readFrom_31, sX0_readFrom_32, sX0_readFrom_33, sX0_readFrom_34, sX0_readFrom_37, sX0_readFrom_39, sX0_readFrom_42, sX0_readFrom_43, sX0_readFrom_45, sX0_readFrom_48, sX0_readFrom_51, sX0_readFrom_52, sX0_readFrom_53, sX0_readFrom_56, sX0_readFrom_59, sX0_readFrom_60, kI_i, kL_l, kV_v, am_rv_s, am_kl_i, am_kl_r, am_kl_n, am_kl_l, true_and, and_true, and_self, true_or, or_true, implies_true, forall_const, not_true_eq_false, not_false_eq_true, false_implies, true_implies, if_true, if_false, Bool.true_eq_false, Bool.false_eq_true, e0, e1, hob, hob1, hcd, hpk, hac, pln, hr, c1, hsz, e16, c2, c3, bz_f]
              simp
            · simp only [pln, hr, c1, c2, c3, Bool.true_eq_false, if_false]; exact h2
            · simp only [pln, hr, c1, c2, c3, Bool.true_eq_false, if_false]; exact hl2 _
theorem c_readFromDL {M : am_M} {l0 : Nat} (ha : 3 < a) (h : TP M len 0) (hd : DL M a l0) : ∃ M', (∀ Q, am_big (d + 4) mX0_readFrom [.ref a, .ref 1] 488 M Q = Q (some (.int (bz (pln (gI M 2) len 16 0 []).1))) M') ∧ TP M' len (pln (gI M 2) len 16 0 []).2.2 ∧ LH M' a (pln (gI M 2) len 16 0 []).2.1 ∧ Fr (XP a) M M' := by
  have hob := ob (a := a) (c := 0) (by have := hd.1.1; omega) hd.1.2.1
  have h0 : TP (sI M a 3 0) len 0 := ⟨h.1, by rw [gI_o (by omega)]; exact h.2.1, by rw [gI_o (by omega)]; exact h.2.2.1, h.2.2.2⟩
  have hl : LH (sI M a 3 0) a [] := ⟨⟨hd.1, by rw [gI_e]; rfl, by simp⟩, fun k t hk => by cases hk⟩
  have hT : gI (sI M a 3 0) 2 = gI M 2 := funext fun j => gI_o (by omega)
  obtain ⟨M', e, t, lh, fr⟩ := l_readFrom (d := d) (len := len) ha 16 (sI M a 3 0) 0 [] h0 hl rfl
  rw [hT] at e t lh
  refine ⟨M', fun Q => ?_, t, lh, (Fr.st (by unfold XP; omega)).tr fr⟩
  rw [eX0_readFrom]
  simp only [sX0_readFrom_0, sX0_readFrom_1, sX0_readFrom_2, sX0_readFrom_5, sX0_readFrom_6, sX0_readFrom_8, sX0_readFrom_10, sX0_readFrom_13, sX0_readFrom_14, sX0_readFrom_15, sX0_readFrom_18, sX0_readFrom_21, sX0_readFrom_22, sX0_readFrom_23, sX0_readFrom_24, sX0_readFrom_27, sX0_readFrom_28, sX0_readFrom_31, sX0_readFrom_32, sX0_readFrom_33, sX0_readFrom_34, sX0_readFrom_37, sX0_readFrom_39, sX0_readFrom_42, sX0_readFrom_43, sX0_readFrom_45, sX0_readFrom_48, sX0_readFrom_51, sX0_readFrom_52, sX0_readFrom_53, sX0_readFrom_56, sX0_readFrom_59, sX0_readFrom_60, kI_i, kL_l, kV_v, am_rv_s, am_kl_i, am_kl_r, am_kl_n, am_kl_l, true_and, and_true, and_self, true_or, or_true, implies_true, forall_const, not_true_eq_false, not_false_eq_true, false_implies, true_implies, if_true, if_false, Bool.true_eq_false, Bool.false_eq_true, hob]
  exact e Q
end
