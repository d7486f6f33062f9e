/-! a year by draws -/
/-- how many of the deeds ahead of k can be taken back -/
def cNf (l : List Dd) : Nat → Nat
  | 0 => 0
  | k + 1 => cNf l k + (if ctL l k = true then 1 else 0)
/-- the p-th of them from t on -/
def fnt (l : List Dd) : Nat → Nat → Nat → Nat
  | 0, t, _ => t
  | j + 1, t, p => if ctL l t = true then (if p = 0 then t else fnt l j (t + 1) (p - 1)) else fnt l j (t + 1) p
theorem cNf_le (l : List Dd) : ∀ k, cNf l k ≤ k
  | 0 => Nat.le_refl _
  | k + 1 => by have := cNf_le l k; unfold cNf; split <;> omega
theorem fnt_lt {l : List Dd} : ∀ j t p, cNf l t + p < cNf l (t + j) → fnt l j t p < t + j
  | 0, t, p, h => by rw [Nat.add_zero] at h; omega
  | j + 1, t, p, h => by
    have e : cNf l (t + 1) = cNf l t + (if ctL l t = true then 1 else 0) := rfl
    unfold fnt
    rw [show t + (j + 1) = t + 1 + j by omega] at h ⊢
    by_cases c : ctL l t = true
    · rw [if_pos c] at e ⊢
      by_cases z : p = 0
      · rw [if_pos z]; omega
      · rw [if_neg z]; exact fnt_lt j (t + 1) (p - 1) (by omega)
    · rw [if_neg c] at e ⊢
      exact fnt_lt j (t + 1) p (by omega)
def tbS (S : Sg) (x : Int64) : Sg × Int64 := if cNf S.1 S.1.length = 0 then (S, x) else (tkS S (fnt S.1 S.1.length 0 (drN x (cNf S.1 S.1.length))), drX x)
def dbD (x : Int64) : Nat × Nat × Nat := (drN x 5, drN (drX x) 6, drN (drX (drX x)) 6 + (if drN x 5 = 2 then 1 else 0))
def dbS (lim : Nat) (S : Sg) (x : Int64) : Sg × Int64 := (if (decide (S.1.length < lim) && cbL S.1 (nI (dbD x).1) (nI (dbD x).2.1) (nI (dbD x).2.2)) = true then doS S (nI (dbD x).1) (nI (dbD x).2.1) (nI (dbD x).2.2) else S, drX (drX (drX x)))
def hap (lim : Nat) (hv : Int32) (S : Sg) (x : Int64) : Sg × Int64 := if nI (drN x 10) < hv then tbS S (drX x) else dbS lim S (drX x)
def yrF (lim : Nat) (hv : Int32) (S : Sg) (P : List Sg) (x : Int64) : Nat → Sg × List Sg × Int64
  | 0 => (S, P, x)
  | k + 1 => ((hap lim hv (tS (yrF lim hv S P x k).1) (yrF lim hv S P x k).2.2).1, paA (yrF lim hv S P x k).2.1 (yrF lim hv S P x k).1, (hap lim hv (tS (yrF lim hv S P x k).1) (yrF lim hv S P x k).2.2).2)
theorem fnt_ok {l : List Dd} {x : Int64} (h : ¬ cNf l l.length = 0) : fnt l l.length 0 (drN x (cNf l l.length)) < l.length := by
  have := fnt_lt (l := l) l.length 0 (drN x (cNf l l.length)) (by
    have : drN x (cNf l l.length) < cNf l l.length := Nat.mod_lt _ (by omega)
    rw [Nat.zero_add]
    show 0 + drN x (cNf l l.length) < _
    omega)
  omega
/-- what a year keeps -/
theorem hap_ok {lim : Nat} {hv : Int32} {S : Sg} {x : Int64} (hlim : lim ≤ 12) (hw : WFl S.1) (hl : S.1.length ≤ 12) : WFl (hap lim hv S x).1.1 ∧ (hap lim hv S x).1.1.length ≤ 12 ∧ (hap lim hv S x).1.2.2.1 = S.2.2.1 ∧ (hap lim hv S x).1.2.2.2.1 = S.2.2.2.1 := by
  unfold hap
  split
  · unfold tbS
    split
    · exact ⟨hw, hl, rfl, rfl⟩
    · rename_i z
      have hlt := fnt_ok (x := drX x) z
      refine ⟨WF_erase hw hlt, ?_, rfl, rfl⟩
      show (S.1.eraseIdx _).length ≤ 12
      rw [List.length_eraseIdx]
      split <;> omega
  · unfold dbS
    simp only
    split
    · rename_i c
      rw [Bool.and_eq_true, decide_eq_true_eq] at c
      refine ⟨(WF_add hw c.2).1, ?_, rfl, rfl⟩
      show (S.1 ++ [_]).length ≤ 12
      simp; omega
    · exact ⟨hw, hl, rfl, rfl⟩
theorem yr_ok {lim : Nat} {hv : Int32} {S : Sg} {P : List Sg} {x : Int64} (hlim : lim ≤ 12) (hw : WFl S.1) (hl : S.1.length ≤ 12) : ∀ k, WFl (yrF lim hv S P x k).1.1 ∧ (yrF lim hv S P x k).1.1.length ≤ 12 ∧ (yrF lim hv S P x k).1.2.2.1 = S.2.2.1 ∧ (yrF lim hv S P x k).1.2.2.2.1 = S.2.2.2.1 + k
  | 0 => ⟨hw, hl, rfl, rfl⟩
  | k + 1 => by
    obtain ⟨h1, h2, h3, h4⟩ := yr_ok (hv := hv) (P := P) (x := x) hlim hw hl k
    obtain ⟨g1, g2, g3, g4⟩ := hap_ok (hv := hv) (S := tS (yrF lim hv S P x k).1) (x := (yrF lim hv S P x k).2.2) hlim h1 h2
    refine ⟨g1, g2, g3.trans h3, g4.trans ?_⟩
    show (yrF lim hv S P x k).1.2.2.2.1 + 1 = _
    omega
def yrsOK (ap : Nat) (S : Sg) (n : Int32) : Prop := opn ap = true ∧ 1 ≤ n ∧ n ≤ 20 ∧ S.2.2.2.1 + n.toNatClampNeg ≤ 9999
def XT9 (c _j : Nat) : Prop := (3 ≤ c ∧ c ≤ 11) ∨ c = 440
section
variable {M N : am_M} {ap lim : Nat} {S : Sg} {P : List Sg} {n : Nat} {x : Int64} {d : Nat} {Q : am_Q}
theorem StN_L {v : Int64} {a j : Nat} (h : StN M 3 ap lim S n) : StN (sL M a j v) 3 ap lim S n := h
theorem c_tbd (hW : WR M) (h : StN M 3 ap lim S n) (hx : gL M 440 0 = x) : ∃ M', (∀ d (Q : am_Q), am_big (d + 4) mX10_takeBackByDraw [.ref 0] 488 M Q = Q none M') ∧ (n < 9999 → ∃ n', StN M' 3 ap lim (tbS S x).1 n' ∧ n' ≤ n + 1) ∧ gL M' 440 0 = (tbS S x).2 ∧ Fw XT9 M M' := by
  have hL : LH M 4 S.1 := h.2.1
  have h16 := hL.1.2.2
  have sz := hL.1.2.1
  have ct : ∀ t, t < S.1.length → ∀ d (Q : am_Q), am_big (d + 2) mX0_canBeTakenBack [.ref 4, .int (nI t)] 488 M Q = Q (some (.int (bz (ctL S.1 t)))) M := fun t ht d Q => by rw [c_ctb hL.1 ht, ctb_L hL ht]
  have l1 : ∀ d (Q : am_Q), ok (d + 3) mX10_takeBackByDraw 488 Q 488 0 0 4 [some (.ref 0), some (.int 0), some (.int 0), none] [] M = ok (d + 3) mX10_takeBackByDraw 488 Q 488 0 0 46 [some (.ref 0), some (.int (nI (cNf S.1 S.1.length))), some (.int (nI S.1.length)), none] [] M := fun d Q => by
    have l0 := loop0 (P := fun k => ok (d + 3) mX10_takeBackByDraw 488 Q 488 0 0 4 [some (.ref 0), some (.int (nI (cNf S.1 k))), some (.int (nI k)), none] [] M) (n := S.1.length) (fun k hk => by
      have e0 : (nI S.1.length ≤ nI k) = False := by rw [nI_leE (by omega) (by omega)]; exact eq_false (by omega)
      have ck := ct k hk
      have o0 : ∀ a : Nat, nI a + 0 = nI (a + 0) := fun a => nI_add a 0
      show ok (d + 3) mX10_takeBackByDraw 488 Q 488 0 0 4 _ [] _ = ok (d + 3) mX10_takeBackByDraw 488 Q 488 0 0 4 [some (.ref 0), some (.int (nI (cNf S.1 k + (if ctL S.1 k = true then 1 else 0)))), some (.int (nI (k + 1))), none] [] _
      rw [sX10_takeBackByDraw_4]
      cases c : ctL S.1 k with
      | true => simp (disch := (first | assumption | omega | decide)) only [sX10_takeBackByDraw_0, sX10_takeBackByDraw_1, sX10_takeBackByDraw_2, sX10_takeBackByDraw_3, sX10_takeBackByDraw_5, sX10_takeBackByDraw_6, sX10_takeBackByDraw_9, sX10_takeBackByDraw_12, sX10_takeBackByDraw_15, sX10_takeBackByDraw_18, sX10_takeBackByDraw_19, sX10_takeBackByDraw_20, sX10_takeBackByDraw_23, sX10_takeBackByDraw_26, sX10_takeBackByDraw_27, sX10_takeBackByDraw_30, sX10_takeBackByDraw_33, sX10_takeBackByDraw_34, sX10_takeBackByDraw_37, sX10_takeBackByDraw_38, sX10_takeBackByDraw_39, sX10_takeBackByDraw_40, sX10_takeBackByDraw_43, sX10_takeBackByDraw_46, sX10_takeBackByDraw_47, sX10_takeBackByDraw_50, sX10_takeBackByDraw_51, sX10_takeBackByDraw_52, sX10_takeBackByDraw_55, sX10_takeBackByDraw_56, sX10_takeBackByDraw_59, sX10_takeBackByDraw_60, sX10_takeBackByDraw_61, sX10_takeBackByDraw_63, sX10_takeBackByDraw_64, sX10_takeBackByDraw_67, sX10_takeBackByDraw_70, sX10_takeBackByDraw_73, sX10_takeBackByDraw_76, sX10_takeBackByDraw_77, sX10_takeBackByDraw_80, sX10_takeBackByDraw_83, sX10_takeBackByDraw_84, sX10_takeBackByDraw_87, sX10_takeBackByDraw_90, sX10_takeBackByDraw_93, sX10_takeBackByDraw_94, sX10_takeBackByDraw_97, sX10_takeBackByDraw_98, sX10_takeBackByDraw_101, sX10_takeBackByDraw_102, sX10_takeBackByDraw_105, sX10_takeBackByDraw_106, sX10_takeBackByDraw_109, sX10_takeBackByDraw_112, sX10_takeBackByDraw_115, kI_i, kL_l, kV_v, am_rv_s, am_kl_i, am_kl_r, am_kl_n, am_kl_l, true_and, and_true, and_self, true_or, or_true, implies_true, forall_const, not_true_eq_false, not_false_eq_true, false_implies, true_implies, if_true, if_false, Bool.true_eq_false, Bool.false_eq_true, ob_0, ob_3, ob_4, r_0_1, r_3_0, sz, e0, ck, c, bz_t, i01, nI_1]
      | false => simp (disch := (first | assumption | omega | decide)) only [sX10_takeBackByDraw_0, sX10_takeBackByDraw_1, sX10_takeBackByDraw_2, sX10_takeBackByDraw_3, sX10_takeBackByDraw_5, sX10_takeBackByDraw_6, sX10_takeBackByDraw_9, sX10_takeBackByDraw_12, sX10_takeBackByDraw_15, sX10_takeBackByDraw_18, sX10_takeBackByDraw_19, sX10_takeBackByDraw_20, sX10_takeBackByDraw_23, sX10_takeBackByDraw_26, sX10_takeBackByDraw_27, sX10_takeBackByDraw_30, sX10_takeBackByDraw_33, sX10_takeBackByDraw_34, sX10_takeBackByDraw_37, sX10_takeBackByDraw_38, sX10_takeBackByDraw_39, sX10_takeBackByDraw_40, sX10_takeBackByDraw_43, sX10_takeBackByDraw_46, sX10_takeBackByDraw_47, sX10_takeBackByDraw_50, sX10_takeBackByDraw_51, sX10_takeBackByDraw_52, sX10_takeBackByDraw_55, sX10_takeBackByDraw_56, sX10_takeBackByDraw_59, sX10_takeBackByDraw_60, sX10_takeBackByDraw_61, sX10_takeBackByDraw_63, sX10_takeBackByDraw_64, sX10_takeBackByDraw_67, sX10_takeBackByDraw_70, sX10_takeBackByDraw_73, sX10_takeBackByDraw_76, sX10_takeBackByDraw_77, sX10_takeBackByDraw_80, sX10_takeBackByDraw_83, sX10_takeBackByDraw_84, sX10_takeBackByDraw_87, sX10_takeBackByDraw_90, sX10_takeBackByDraw_93, sX10_takeBackByDraw_94, sX10_takeBackByDraw_97, sX10_takeBackByDraw_98, sX10_takeBackByDraw_101, sX10_takeBackByDraw_102, sX10_takeBackByDraw_105, sX10_takeBackByDraw_106, sX10_takeBackByDraw_109, sX10_takeBackByDraw_112, sX10_takeBackByDraw_115, kI_i, kL_l, kV_v, am_rv_s, am_kl_i, am_kl_r, am_kl_n, am_kl_l, true_and, and_true, and_self, true_or, or_true, implies_true, forall_const, not_true_eq_false, not_false_eq_true, false_implies, true_implies, if_true, if_false, Bool.true_eq_false, Bool.false_eq_true, ob_0, ob_3, ob_4, r_0_1, r_3_0, sz, e0, ck, c, bz_f, o0, nI_1])
    have l0' : ok (d + 3) mX10_takeBackByDraw 488 Q 488 0 0 4 [some (.ref 0), some (.int 0), some (.int 0), none] [] M = _ := l0
    rw [l0', sX10_takeBackByDraw_4]
    simp (disch := (first | assumption | omega | decide)) only [sX10_takeBackByDraw_0, sX10_takeBackByDraw_1, sX10_takeBackByDraw_2, sX10_takeBackByDraw_3, sX10_takeBackByDraw_5, sX10_takeBackByDraw_6, sX10_takeBackByDraw_9, sX10_takeBackByDraw_12, sX10_takeBackByDraw_15, sX10_takeBackByDraw_18, sX10_takeBackByDraw_19, sX10_takeBackByDraw_20, sX10_takeBackByDraw_23, sX10_takeBackByDraw_26, sX10_takeBackByDraw_27, sX10_takeBackByDraw_30, sX10_takeBackByDraw_33, sX10_takeBackByDraw_34, sX10_takeBackByDraw_37, sX10_takeBackByDraw_38, sX10_takeBackByDraw_39, sX10_takeBackByDraw_40, sX10_takeBackByDraw_43, sX10_takeBackByDraw_47, sX10_takeBackByDraw_50, sX10_takeBackByDraw_51, sX10_takeBackByDraw_52, sX10_takeBackByDraw_55, sX10_takeBackByDraw_56, sX10_takeBackByDraw_59, sX10_takeBackByDraw_60, sX10_takeBackByDraw_61, sX10_takeBackByDraw_63, sX10_takeBackByDraw_64, sX10_takeBackByDraw_67, sX10_takeBackByDraw_70, sX10_takeBackByDraw_73, sX10_takeBackByDraw_76, sX10_takeBackByDraw_77, sX10_takeBackByDraw_80, sX10_takeBackByDraw_83, sX10_takeBackByDraw_84, sX10_takeBackByDraw_87, sX10_takeBackByDraw_90, sX10_takeBackByDraw_93, sX10_takeBackByDraw_94, sX10_takeBackByDraw_97, sX10_takeBackByDraw_98, sX10_takeBackByDraw_101, sX10_takeBackByDraw_102, sX10_takeBackByDraw_105, sX10_takeBackByDraw_106, sX10_takeBackByDraw_109, sX10_takeBackByDraw_112, sX10_takeBackByDraw_115, kI_i, kL_l, kV_v, am_rv_s, am_kl_i, am_kl_r, am_kl_n, am_kl_l, true_and, and_true, and_self, true_or, or_true, implies_true, forall_const, not_true_eq_false, not_false_eq_true, false_implies, true_implies, if_true, if_false, Bool.true_eq_false, Bool.false_eq_true, ob_0, ob_3, ob_4, r_0_1, r_3_0, sz, Int32.le_refl]
  have hc := cNf_le S.1 S.1.length
  unfold tbS
  by_cases z : cNf S.1 S.1.length = 0
  · rw [if_pos z]
    refine ⟨M, fun d Q => ?_, fun hn => ⟨n, h, by omega⟩, hx, Fw.rf⟩
    have n0 : nI 0 = 0 := rfl
    rw [eX10_takeBackByDraw]
    simp (disch := (first | assumption | omega | decide)) only [sX10_takeBackByDraw_0, sX10_takeBackByDraw_1, sX10_takeBackByDraw_2, sX10_takeBackByDraw_3, sX10_takeBackByDraw_5, sX10_takeBackByDraw_6, sX10_takeBackByDraw_9, sX10_takeBackByDraw_12, sX10_takeBackByDraw_15, sX10_takeBackByDraw_18, sX10_takeBackByDraw_19, sX10_takeBackByDraw_20, sX10_takeBackByDraw_23, sX10_takeBackByDraw_26, sX10_takeBackByDraw_27, sX10_takeBackByDraw_30, sX10_takeBackByDraw_33, sX10_takeBackByDraw_34, sX10_takeBackByDraw_37, sX10_takeBackByDraw_38, sX10_takeBackByDraw_39, sX10_takeBackByDraw_40, sX10_takeBackByDraw_43, sX10_takeBackByDraw_47, sX10_takeBackByDraw_50, sX10_takeBackByDraw_51, sX10_takeBackByDraw_52, sX10_takeBackByDraw_55, sX10_takeBackByDraw_56, sX10_takeBackByDraw_59, sX10_takeBackByDraw_60, sX10_takeBackByDraw_61, sX10_takeBackByDraw_63, sX10_takeBackByDraw_64, sX10_takeBackByDraw_67, sX10_takeBackByDraw_70, sX10_takeBackByDraw_73, sX10_takeBackByDraw_76, sX10_takeBackByDraw_77, sX10_takeBackByDraw_80, sX10_takeBackByDraw_83, sX10_takeBackByDraw_84, sX10_takeBackByDraw_87, sX10_takeBackByDraw_90, sX10_takeBackByDraw_93, sX10_takeBackByDraw_94, sX10_takeBackByDraw_97, sX10_takeBackByDraw_98, sX10_takeBackByDraw_101, sX10_takeBackByDraw_102, sX10_takeBackByDraw_105, sX10_takeBackByDraw_106, sX10_takeBackByDraw_109, sX10_takeBackByDraw_112, sX10_takeBackByDraw_115, kI_i, kL_l, kV_v, am_rv_s, am_kl_i, am_kl_r, am_kl_n, am_kl_l, true_and, and_true, and_self, true_or, or_true, implies_true, forall_const, not_true_eq_false, not_false_eq_true, false_implies, true_implies, if_true, if_false, Bool.true_eq_false, Bool.false_eq_true, l1]
    rw [z]
    simp (disch := (first | assumption | omega | decide)) only [sX10_takeBackByDraw_0, sX10_takeBackByDraw_1, sX10_takeBackByDraw_2, sX10_takeBackByDraw_3, sX10_takeBackByDraw_5, sX10_takeBackByDraw_6, sX10_takeBackByDraw_9, sX10_takeBackByDraw_12, sX10_takeBackByDraw_15, sX10_takeBackByDraw_18, sX10_takeBackByDraw_19, sX10_takeBackByDraw_20, sX10_takeBackByDraw_23, sX10_takeBackByDraw_26, sX10_takeBackByDraw_27, sX10_takeBackByDraw_30, sX10_takeBackByDraw_33, sX10_takeBackByDraw_34, sX10_takeBackByDraw_37, sX10_takeBackByDraw_38, sX10_takeBackByDraw_39, sX10_takeBackByDraw_40, sX10_takeBackByDraw_43, sX10_takeBackByDraw_46, sX10_takeBackByDraw_47, sX10_takeBackByDraw_50, sX10_takeBackByDraw_51, sX10_takeBackByDraw_52, sX10_takeBackByDraw_55, sX10_takeBackByDraw_56, sX10_takeBackByDraw_59, sX10_takeBackByDraw_60, sX10_takeBackByDraw_61, sX10_takeBackByDraw_63, sX10_takeBackByDraw_64, sX10_takeBackByDraw_67, sX10_takeBackByDraw_70, sX10_takeBackByDraw_73, sX10_takeBackByDraw_76, sX10_takeBackByDraw_77, sX10_takeBackByDraw_80, sX10_takeBackByDraw_83, sX10_takeBackByDraw_84, sX10_takeBackByDraw_87, sX10_takeBackByDraw_90, sX10_takeBackByDraw_93, sX10_takeBackByDraw_94, sX10_takeBackByDraw_97, sX10_takeBackByDraw_98, sX10_takeBackByDraw_101, sX10_takeBackByDraw_102, sX10_takeBackByDraw_105, sX10_takeBackByDraw_106, sX10_takeBackByDraw_109, sX10_takeBackByDraw_112, sX10_takeBackByDraw_115, kI_i, kL_l, kV_v, am_rv_s, am_kl_i, am_kl_r, am_kl_n, am_kl_l, true_and, and_true, and_self, true_or, or_true, implies_true, forall_const, not_true_eq_false, not_false_eq_true, false_implies, true_implies, if_true, if_false, Bool.true_eq_false, Bool.false_eq_true, n0]
  · rw [if_neg z]
    have be := fun d (Q : am_Q) => c_below (d := d) (Q := Q) (M := M) (k := cNf S.1 S.1.length) (by omega) (by omega)
    rw [hx] at be
    have hW1 : WR (sL M 440 0 (drX x)) := hW
    have h1 : StN (sL M 440 0 (drX x)) 3 ap lim S n := h
    have he := fnt_ok (l := S.1) (x := x) z
    have hp : drN x (cNf S.1 S.1.length) < cNf S.1 S.1.length := Nat.mod_lt _ (by omega)
    generalize hpp : drN x (cNf S.1 S.1.length) = p0 at *
    generalize hee : fnt S.1 S.1.length 0 p0 = e at *
    obtain ⟨M2, e2, s2, f2⟩ := c_takeBack h1 he
    refine ⟨M2, fun d Q => ?_, fun hn => ⟨n + 1, s2 hn, by omega⟩, ?_, (Fw.l (Or.inr rfl)).tr (f2.mo (fun c j z => Or.inl (by omega)))⟩
    · have nz : (nI (cNf S.1 S.1.length) = 0) = False := by rw [nI_z (by omega)]; exact eq_false z
      have ct1 : ∀ t, t < S.1.length → ∀ d (Q : am_Q), am_big (d + 2) mX0_canBeTakenBack [.ref 4, .int (nI t)] 488 (sL M 440 0 (drX x)) Q = Q (some (.int (bz (ctL S.1 t)))) (sL M 440 0 (drX x)) := fun t ht d Q => by
        have hL1 : LH (sL M 440 0 (drX x)) 4 S.1 := hL
        rw [c_ctb hL1.1 ht, ctb_L hL1 ht]
      have sz1 : gI (sL M 440 0 (drX x)) 4 3 = nI S.1.length := sz
      have key : ∀ j t p, t + j = S.1.length → cNf S.1 t + p < cNf S.1 S.1.length → fnt S.1 j t p = e → ok (d + 3) mX10_takeBackByDraw 488 Q 488 0 0 62 [some (.ref 0), some (.int (nI (cNf S.1 S.1.length))), some (.int (nI p)), some (.int (nI t))] [] (sL M 440 0 (drX x)) = Q none M2 := by
        intro j
        induction j with
        | zero => intro t p ht hp _; rw [Nat.add_zero] at ht; rw [ht] at hp; omega
        | succ j ih =>
          intro t p ht hp hf
          have e0 : (nI S.1.length ≤ nI t) = False := by rw [nI_leE (by omega) (by omega)]; exact eq_false (by omega)
          have ck := ct1 t (by omega)
          have es : cNf S.1 (t + 1) = cNf S.1 t + (if ctL S.1 t = true then 1 else 0) := rfl
          unfold fnt at hf
          rw [sX10_takeBackByDraw_62]
          cases c : ctL S.1 t with
          | true =>
            rw [if_pos c] at hf
            rw [c, if_pos rfl] at es
            by_cases zp : p = 0
            · rw [if_pos zp] at hf
              subst hf zp
              have n0 : nI 0 = 0 := rfl
              simp (disch := (first | assumption | omega | decide)) only [sX10_takeBackByDraw_0, sX10_takeBackByDraw_1, sX10_takeBackByDraw_2, sX10_takeBackByDraw_3, sX10_takeBackByDraw_5, sX10_takeBackByDraw_6, sX10_takeBackByDraw_9, sX10_takeBackByDraw_12, sX10_takeBackByDraw_15, sX10_takeBackByDraw_18, sX10_takeBackByDraw_19, sX10_takeBackByDraw_20, sX10_takeBackByDraw_23, sX10_takeBackByDraw_26, sX10_takeBackByDraw_27, sX10_takeBackByDraw_30, sX10_takeBackByDraw_33, sX10_takeBackByDraw_34, sX10_takeBackByDraw_37, sX10_takeBackByDraw_38, sX10_takeBackByDraw_39, sX10_takeBackByDraw_40, sX10_takeBackByDraw_43, sX10_takeBackByDraw_46, sX10_takeBackByDraw_47, sX10_takeBackByDraw_50, sX10_takeBackByDraw_51, sX10_takeBackByDraw_52, sX10_takeBackByDraw_55, sX10_takeBackByDraw_56, sX10_takeBackByDraw_59, sX10_takeBackByDraw_60, sX10_takeBackByDraw_61, sX10_takeBackByDraw_63, sX10_takeBackByDraw_64, sX10_takeBackByDraw_67, sX10_takeBackByDraw_70, sX10_takeBackByDraw_73, sX10_takeBackByDraw_76, sX10_takeBackByDraw_77, sX10_takeBackByDraw_80, sX10_takeBackByDraw_83, sX10_takeBackByDraw_84, sX10_takeBackByDraw_87, sX10_takeBackByDraw_90, sX10_takeBackByDraw_93, sX10_takeBackByDraw_94, sX10_takeBackByDraw_97, sX10_takeBackByDraw_98, sX10_takeBackByDraw_101, sX10_takeBackByDraw_102, sX10_takeBackByDraw_105, sX10_takeBackByDraw_106, sX10_takeBackByDraw_109, sX10_takeBackByDraw_112, sX10_takeBackByDraw_115, kI_i, kL_l, kV_v, am_rv_s, am_kl_i, am_kl_r, am_kl_n, am_kl_l, true_and, and_true, and_self, true_or, or_true, implies_true, forall_const, not_true_eq_false, not_false_eq_true, false_implies, true_implies, if_true, if_false, Bool.true_eq_false, Bool.false_eq_true, ob_0, ob_3, ob_4, r_0_1, r_3_0, sz1, e0, ck, c, bz_t, i01, n0, e2]
            · rw [if_neg zp] at hf
              have ih' := ih (t + 1) (p - 1) (by omega) (by omega) hf
              have np : (nI p = 0) = False := by rw [nI_z (by omega)]; exact eq_false zp
              have nm : nI p + -1 = nI (p - 1) := by rw [← nI_sub1 (by omega), Int32.sub_eq_add_neg]
              simp (disch := (first | assumption | omega | decide)) only [sX10_takeBackByDraw_0, sX10_takeBackByDraw_1, sX10_takeBackByDraw_2, sX10_takeBackByDraw_3, sX10_takeBackByDraw_5, sX10_takeBackByDraw_6, sX10_takeBackByDraw_9, sX10_takeBackByDraw_12, sX10_takeBackByDraw_15, sX10_takeBackByDraw_18, sX10_takeBackByDraw_19, sX10_takeBackByDraw_20, sX10_takeBackByDraw_23, sX10_takeBackByDraw_26, sX10_takeBackByDraw_27, sX10_takeBackByDraw_30, sX10_takeBackByDraw_33, sX10_takeBackByDraw_34, sX10_takeBackByDraw_37, sX10_takeBackByDraw_38, sX10_takeBackByDraw_39, sX10_takeBackByDraw_40, sX10_takeBackByDraw_43, sX10_takeBackByDraw_46, sX10_takeBackByDraw_47, sX10_takeBackByDraw_50, sX10_takeBackByDraw_51, sX10_takeBackByDraw_52, sX10_takeBackByDraw_55, sX10_takeBackByDraw_56, sX10_takeBackByDraw_59, sX10_takeBackByDraw_60, sX10_takeBackByDraw_61, sX10_takeBackByDraw_63, sX10_takeBackByDraw_64, sX10_takeBackByDraw_67, sX10_takeBackByDraw_70, sX10_takeBackByDraw_73, sX10_takeBackByDraw_76, sX10_takeBackByDraw_77, sX10_takeBackByDraw_80, sX10_takeBackByDraw_83, sX10_takeBackByDraw_84, sX10_takeBackByDraw_87, sX10_takeBackByDraw_90, sX10_takeBackByDraw_93, sX10_takeBackByDraw_94, sX10_takeBackByDraw_97, sX10_takeBackByDraw_98, sX10_takeBackByDraw_101, sX10_takeBackByDraw_102, sX10_takeBackByDraw_105, sX10_takeBackByDraw_106, sX10_takeBackByDraw_109, sX10_takeBackByDraw_112, sX10_takeBackByDraw_115, kI_i, kL_l, kV_v, am_rv_s, am_kl_i, am_kl_r, am_kl_n, am_kl_l, true_and, and_true, and_self, true_or, or_true, implies_true, forall_const, not_true_eq_false, not_false_eq_true, false_implies, true_implies, if_true, if_false, Bool.true_eq_false, Bool.false_eq_true, ob_0, ob_3, ob_4, r_0_1, r_3_0, sz1, e0, ck, c, bz_t, i01, np, nm, nI_1, ih']
          | false =>
            rw [if_neg (by rw [c]; decide)] at hf
            rw [c, if_neg (by decide)] at es
            have ih' := ih (t + 1) p (by omega) (by omega) hf
            simp (disch := (first | assumption | omega | decide)) only [sX10_takeBackByDraw_0, sX10_takeBackByDraw_1, sX10_takeBackByDraw_2, sX10_takeBackByDraw_3, sX10_takeBackByDraw_5, sX10_takeBackByDraw_6, sX10_takeBackByDraw_9, sX10_takeBackByDraw_12, sX10_takeBackByDraw_15, sX10_takeBackByDraw_18, sX10_takeBackByDraw_19, sX10_takeBackByDraw_20, sX10_takeBackByDraw_23, sX10_takeBackByDraw_26, sX10_takeBackByDraw_27, sX10_takeBackByDraw_30, sX10_takeBackByDraw_33, sX10_takeBackByDraw_34, sX10_takeBackByDraw_37, sX10_takeBackByDraw_38, sX10_takeBackByDraw_39, sX10_takeBackByDraw_40, sX10_takeBackByDraw_43, sX10_takeBackByDraw_46, sX10_takeBackByDraw_47, sX10_takeBackByDraw_50, sX10_takeBackByDraw_51, sX10_takeBackByDraw_52, sX10_takeBackByDraw_55, sX10_takeBackByDraw_56, sX10_takeBackByDraw_59, sX10_takeBackByDraw_60, sX10_takeBackByDraw_61, sX10_takeBackByDraw_63, sX10_takeBackByDraw_64, sX10_takeBackByDraw_67, sX10_takeBackByDraw_70, sX10_takeBackByDraw_73, sX10_takeBackByDraw_76, sX10_takeBackByDraw_77, sX10_takeBackByDraw_80, sX10_takeBackByDraw_83, sX10_takeBackByDraw_84, sX10_takeBackByDraw_87, sX10_takeBackByDraw_90, sX10_takeBackByDraw_93, sX10_takeBackByDraw_94, sX10_takeBackByDraw_97, sX10_takeBackByDraw_98, sX10_takeBackByDraw_101, sX10_takeBackByDraw_102, sX10_takeBackByDraw_105, sX10_takeBackByDraw_106, sX10_takeBackByDraw_109, sX10_takeBackByDraw_112, sX10_takeBackByDraw_115, kI_i, kL_l, kV_v, am_rv_s, am_kl_i, am_kl_r, am_kl_n, am_kl_l, true_and, and_true, and_self, true_or, or_true, implies_true, forall_const, not_true_eq_false, not_false_eq_true, false_implies, true_implies, if_true, if_false, Bool.true_eq_false, Bool.false_eq_true, ob_0, ob_3, ob_4, r_0_1, r_3_0, sz1, e0, ck, c, bz_f, nI_1, ih']
      have k0 : ok (d + 3) mX10_takeBackByDraw 488 Q 488 0 0 62 [some (.ref 0), some (.int (nI (cNf S.1 S.1.length))), some (.int (nI p0)), some (.int 0)] [] (sL M 440 0 (drX x)) = Q none M2 := key S.1.length 0 p0 (by omega) (by show 0 + p0 < _; omega) hee
      rw [eX10_takeBackByDraw]
      simp (disch := (first | assumption | omega | decide)) only [sX10_takeBackByDraw_0, sX10_takeBackByDraw_1, sX10_takeBackByDraw_2, sX10_takeBackByDraw_3, sX10_takeBackByDraw_5, sX10_takeBackByDraw_6, sX10_takeBackByDraw_9, sX10_takeBackByDraw_12, sX10_takeBackByDraw_15, sX10_takeBackByDraw_18, sX10_takeBackByDraw_19, sX10_takeBackByDraw_20, sX10_takeBackByDraw_23, sX10_takeBackByDraw_26, sX10_takeBackByDraw_27, sX10_takeBackByDraw_30, sX10_takeBackByDraw_33, sX10_takeBackByDraw_34, sX10_takeBackByDraw_37, sX10_takeBackByDraw_38, sX10_takeBackByDraw_39, sX10_takeBackByDraw_40, sX10_takeBackByDraw_43, sX10_takeBackByDraw_47, sX10_takeBackByDraw_50, sX10_takeBackByDraw_51, sX10_takeBackByDraw_52, sX10_takeBackByDraw_55, sX10_takeBackByDraw_56, sX10_takeBackByDraw_59, sX10_takeBackByDraw_60, sX10_takeBackByDraw_61, sX10_takeBackByDraw_63, sX10_takeBackByDraw_64, sX10_takeBackByDraw_67, sX10_takeBackByDraw_70, sX10_takeBackByDraw_73, sX10_takeBackByDraw_76, sX10_takeBackByDraw_77, sX10_takeBackByDraw_80, sX10_takeBackByDraw_83, sX10_takeBackByDraw_84, sX10_takeBackByDraw_87, sX10_takeBackByDraw_90, sX10_takeBackByDraw_93, sX10_takeBackByDraw_94, sX10_takeBackByDraw_97, sX10_takeBackByDraw_98, sX10_takeBackByDraw_101, sX10_takeBackByDraw_102, sX10_takeBackByDraw_105, sX10_takeBackByDraw_106, sX10_takeBackByDraw_109, sX10_takeBackByDraw_112, sX10_takeBackByDraw_115, kI_i, kL_l, kV_v, am_rv_s, am_kl_i, am_kl_r, am_kl_n, am_kl_l, true_and, and_true, and_self, true_or, or_true, implies_true, forall_const, not_true_eq_false, not_false_eq_true, false_implies, true_implies, if_true, if_false, Bool.true_eq_false, Bool.false_eq_true, l1]
      simp (disch := (first | assumption | omega | decide)) only [sX10_takeBackByDraw_0, sX10_takeBackByDraw_1, sX10_takeBackByDraw_2, sX10_takeBackByDraw_3, sX10_takeBackByDraw_5, sX10_takeBackByDraw_6, sX10_takeBackByDraw_9, sX10_takeBackByDraw_12, sX10_takeBackByDraw_15, sX10_takeBackByDraw_18, sX10_takeBackByDraw_19, sX10_takeBackByDraw_20, sX10_takeBackByDraw_23, sX10_takeBackByDraw_26, sX10_takeBackByDraw_27, sX10_takeBackByDraw_30, sX10_takeBackByDraw_33, sX10_takeBackByDraw_34, sX10_takeBackByDraw_37, sX10_takeBackByDraw_38, sX10_takeBackByDraw_39, sX10_takeBackByDraw_40, sX10_takeBackByDraw_43, sX10_takeBackByDraw_46, sX10_takeBackByDraw_47, sX10_takeBackByDraw_50, sX10_takeBackByDraw_51, sX10_takeBackByDraw_52, sX10_takeBackByDraw_55, sX10_takeBackByDraw_56, sX10_takeBackByDraw_59, sX10_takeBackByDraw_60, sX10_takeBackByDraw_61, sX10_takeBackByDraw_63, sX10_takeBackByDraw_64, sX10_takeBackByDraw_67, sX10_takeBackByDraw_70, sX10_takeBackByDraw_73, sX10_takeBackByDraw_76, sX10_takeBackByDraw_77, sX10_takeBackByDraw_80, sX10_takeBackByDraw_83, sX10_takeBackByDraw_84, sX10_takeBackByDraw_87, sX10_takeBackByDraw_90, sX10_takeBackByDraw_93, sX10_takeBackByDraw_94, sX10_takeBackByDraw_97, sX10_takeBackByDraw_98, sX10_takeBackByDraw_101, sX10_takeBackByDraw_102, sX10_takeBackByDraw_105, sX10_takeBackByDraw_106, sX10_takeBackByDraw_109, sX10_takeBackByDraw_112, sX10_takeBackByDraw_115, kI_i, kL_l, kV_v, am_rv_s, am_kl_i, am_kl_r, am_kl_n, am_kl_l, true_and, and_true, and_self, true_or, or_true, implies_true, forall_const, not_true_eq_false, not_false_eq_true, false_implies, true_implies, if_true, if_false, Bool.true_eq_false, Bool.false_eq_true, ob_0, ob_440, r_0_15, nz, be, k0]
    · rw [f2.L (by omega)]; exact gL_e
theorem c_dbd (hW : WR M) (hlim : lim ≤ 12) (h : StN M 3 ap lim S n) (hx : gL M 440 0 = x) : ∃ M', (∀ d (Q : am_Q), am_big (d + 5) mX10_doByDraw [.ref 0] 488 M Q = Q none M') ∧ (n < 9999 → ∃ n', StN M' 3 ap lim (dbS lim S x).1 n' ∧ n' ≤ n + 1) ∧ gL M' 440 0 = (dbS lim S x).2 ∧ Fw XT9 M M' := by
  have b5 := fun d (Q : am_Q) (M : am_M) => c_below (d := d) (Q := Q) (M := M) (k := 5) (by omega) (by omega)
  have b6 := fun d (Q : am_Q) (M : am_M) => c_below (d := d) (Q := Q) (M := M) (k := 6) (by omega) (by omega)
  have g5 : nI 5 = 5 := rfl
  have g6 : nI 6 = 6 := rfl
  rw [g5] at b5
  rw [g6] at b6
  have d5 : drN x 5 < 5 := Nat.mod_lt _ (by omega)
  have d6 : drN (drX x) 6 < 6 := Nat.mod_lt _ (by omega)
  have d66 : drN (drX (drX x)) 6 < 6 := Nat.mod_lt _ (by omega)
  have hm : sL (sL (sL M 440 0 (drX x)) 440 0 (drX (drX x))) 440 0 (drX (drX (drX x))) = sL M 440 0 (drX (drX (drX x))) := by
    refine M_ext (fun _ _ => rfl) (fun a k => ?_) (fun _ _ => rfl)
    simp only [gL_sL]
    split <;> rfl
  have h1 : StN (sL M 440 0 (drX (drX (drX x)))) 3 ap lim S n := h
  have hL : LH (sL M 440 0 (drX (drX (drX x)))) 4 S.1 := h.2.1
  have h16 := hL.1.2.2
  have asz := hL.1.2.1
  have g4 : gI (sL M 440 0 (drX (drX (drX x)))) 3 4 = nI lim := h.2.2.2.1
  have hW1 : WR (sL M 440 0 (drX (drX (drX x)))) := hW
  have f1 : Fw XT9 M (sL M 440 0 (drX (drX (drX x)))) := Fw.l (Or.inr rfl)
  have ex : ∀ c : Nat, nI (drN (drX (drX x)) 6) + nI c = nI (drN (drX (drX x)) 6 + c) := fun c => nI_add _ _
  have e1 : (1 : Int32) = nI 1 := rfl
  have e00 : (0 : Int32) = nI 0 := rfl
  have e2 : (nI (drN x 5) = 2) = (drN x 5 = 2) := by rw [show (2 : Int32) = nI 2 from rfl, nI_eqE (by omega) (by omega)]
  unfold dbS
  have hx2 : (dbD x).2.2 = drN (drX (drX x)) 6 + (if drN x 5 = 2 then 1 else 0) := rfl
  have cb : ∀ d (Q : am_Q), am_big (d + 4) mX0_canBe [.ref 4, .int (nI (dbD x).1), .int (nI (dbD x).2.1), .int (nI (dbD x).2.2), .int (nI lim)] 488 (sL M 440 0 (drX (drX (drX x)))) Q = Q (some (.int (bz (decide (S.1.length < lim) && cbL S.1 (nI (dbD x).1) (nI (dbD x).2.1) (nI (dbD x).2.2))))) (sL M 440 0 (drX (drX (drX x)))) := fun d Q => by
    rw [c_canBe hL.1, cbf_L hL, asz]
    simp only [nI_ltE (show S.1.length < 2 ^ 31 by omega) (show lim < 2 ^ 31 by omega)]
  have v1 : (dbD x).1 = drN x 5 := rfl
  have v2 : (dbD x).2.1 = drN (drX x) 6 := rfl
  have run : ∀ d (Q : am_Q), ok (d + 4) mX10_doByDraw 488 Q 488 0 0 0 [some (.ref 0), none, none, none] [] M = ok (d + 4) mX10_doByDraw 488 Q 488 0 0 40 [some (.ref 0), some (.int (nI (dbD x).1)), some (.int (nI (dbD x).2.1)), some (.int (nI (dbD x).2.2))] [] (sL M 440 0 (drX (drX (drX x)))) := fun d Q => by
    rw [hx2, v1, v2]
    by_cases c : drN x 5 = 2
    · rw [if_pos c]
      have ex1 := ex 1
      rw [← e1] at ex1
      have e2t : (nI (drN x 5) = 2) = True := by rw [e2]; exact eq_true c
      simp (disch := (first | assumption | omega | decide)) only [sX10_doByDraw_0, sX10_doByDraw_1, sX10_doByDraw_4, sX10_doByDraw_5, sX10_doByDraw_8, sX10_doByDraw_9, sX10_doByDraw_10, sX10_doByDraw_13, sX10_doByDraw_15, sX10_doByDraw_18, sX10_doByDraw_19, sX10_doByDraw_20, sX10_doByDraw_23, sX10_doByDraw_25, sX10_doByDraw_28, sX10_doByDraw_29, sX10_doByDraw_30, sX10_doByDraw_33, sX10_doByDraw_34, sX10_doByDraw_37, sX10_doByDraw_38, sX10_doByDraw_39, sX10_doByDraw_41, sX10_doByDraw_44, sX10_doByDraw_47, sX10_doByDraw_48, sX10_doByDraw_49, sX10_doByDraw_50, sX10_doByDraw_51, sX10_doByDraw_54, sX10_doByDraw_57, sX10_doByDraw_60, sX10_doByDraw_63, sX10_doByDraw_64, sX10_doByDraw_67, sX10_doByDraw_68, sX10_doByDraw_69, sX10_doByDraw_70, sX10_doByDraw_73, kI_i, kL_l, kV_v, am_rv_s, am_kl_i, am_kl_r, am_kl_n, am_kl_l, true_and, and_true, and_self, true_or, or_true, implies_true, forall_const, not_true_eq_false, not_false_eq_true, false_implies, true_implies, if_true, if_false, Bool.true_eq_false, Bool.false_eq_true, ob_0, ob_440, gR_sL, r_0_15, b5, b6, hx, gL_e, e2t, hm, ex1]
    · rw [if_neg c]
      have ex0 := ex 0
      rw [← e00] at ex0
      simp (disch := (first | assumption | omega | decide)) only [sX10_doByDraw_0, sX10_doByDraw_1, sX10_doByDraw_4, sX10_doByDraw_5, sX10_doByDraw_8, sX10_doByDraw_9, sX10_doByDraw_10, sX10_doByDraw_13, sX10_doByDraw_15, sX10_doByDraw_18, sX10_doByDraw_19, sX10_doByDraw_20, sX10_doByDraw_23, sX10_doByDraw_25, sX10_doByDraw_28, sX10_doByDraw_29, sX10_doByDraw_30, sX10_doByDraw_33, sX10_doByDraw_34, sX10_doByDraw_37, sX10_doByDraw_38, sX10_doByDraw_39, sX10_doByDraw_41, sX10_doByDraw_44, sX10_doByDraw_47, sX10_doByDraw_48, sX10_doByDraw_49, sX10_doByDraw_50, sX10_doByDraw_51, sX10_doByDraw_54, sX10_doByDraw_57, sX10_doByDraw_60, sX10_doByDraw_63, sX10_doByDraw_64, sX10_doByDraw_67, sX10_doByDraw_68, sX10_doByDraw_69, sX10_doByDraw_70, sX10_doByDraw_73, kI_i, kL_l, kV_v, am_rv_s, am_kl_i, am_kl_r, am_kl_n, am_kl_l, true_and, and_true, and_self, true_or, or_true, implies_true, forall_const, not_true_eq_false, not_false_eq_true, false_implies, true_implies, if_true, if_false, Bool.true_eq_false, Bool.false_eq_true, ob_0, ob_440, gR_sL, r_0_15, b5, b6, hx, gL_e, e2, c, hm, ex0]
  cases c : (decide (S.1.length < lim) && cbL S.1 (nI (dbD x).1) (nI (dbD x).2.1) (nI (dbD x).2.2)) with
  | false =>
    rw [if_neg (by decide)]
    refine ⟨_, fun d Q => ?_, fun hn => ⟨n, h1, by omega⟩, gL_e, f1⟩
    rw [eX10_doByDraw, run]
    simp (disch := (first | assumption | omega | decide)) only [sX10_doByDraw_0, sX10_doByDraw_1, sX10_doByDraw_4, sX10_doByDraw_5, sX10_doByDraw_8, sX10_doByDraw_9, sX10_doByDraw_10, sX10_doByDraw_13, sX10_doByDraw_15, sX10_doByDraw_18, sX10_doByDraw_19, sX10_doByDraw_20, sX10_doByDraw_23, sX10_doByDraw_25, sX10_doByDraw_28, sX10_doByDraw_29, sX10_doByDraw_30, sX10_doByDraw_33, sX10_doByDraw_34, sX10_doByDraw_37, sX10_doByDraw_38, sX10_doByDraw_39, sX10_doByDraw_40, sX10_doByDraw_41, sX10_doByDraw_44, sX10_doByDraw_47, sX10_doByDraw_48, sX10_doByDraw_49, sX10_doByDraw_50, sX10_doByDraw_51, sX10_doByDraw_54, sX10_doByDraw_57, sX10_doByDraw_60, sX10_doByDraw_63, sX10_doByDraw_64, sX10_doByDraw_67, sX10_doByDraw_68, sX10_doByDraw_69, sX10_doByDraw_70, sX10_doByDraw_73, kI_i, kL_l, kV_v, am_rv_s, am_kl_i, am_kl_r, am_kl_n, am_kl_l, true_and, and_true, and_self, true_or, or_true, implies_true, forall_const, not_true_eq_false, not_false_eq_true, false_implies, true_implies, if_true, if_false, Bool.true_eq_false, Bool.false_eq_true, ob_0, ob_3, ob_4, r_0_1, r_3_0, g4, cb, c, bz_f]
  | true =>
    rw [if_pos rfl]
    have cc := c
    rw [Bool.and_eq_true, decide_eq_true_eq] at cc
    obtain ⟨M2, e3, s2, f2⟩ := c_doDeed (so := nI (dbD x).1) (pa := nI (dbD x).2.1) (x := nI (dbD x).2.2) h1 (by omega)
    refine ⟨M2, fun d Q => ?_, fun hn => ⟨n + 1, s2 hn, by omega⟩, by rw [f2.L (by omega)]; exact gL_e, f1.tr (f2.mo (fun c j z => Or.inl (by omega)))⟩
    rw [eX10_doByDraw, run]
    simp (disch := (first | assumption | omega | decide)) only [sX10_doByDraw_0, sX10_doByDraw_1, sX10_doByDraw_4, sX10_doByDraw_5, sX10_doByDraw_8, sX10_doByDraw_9, sX10_doByDraw_10, sX10_doByDraw_13, sX10_doByDraw_15, sX10_doByDraw_18, sX10_doByDraw_19, sX10_doByDraw_20, sX10_doByDraw_23, sX10_doByDraw_25, sX10_doByDraw_28, sX10_doByDraw_29, sX10_doByDraw_30, sX10_doByDraw_33, sX10_doByDraw_34, sX10_doByDraw_37, sX10_doByDraw_38, sX10_doByDraw_39, sX10_doByDraw_40, sX10_doByDraw_41, sX10_doByDraw_44, sX10_doByDraw_47, sX10_doByDraw_48, sX10_doByDraw_49, sX10_doByDraw_50, sX10_doByDraw_51, sX10_doByDraw_54, sX10_doByDraw_57, sX10_doByDraw_60, sX10_doByDraw_63, sX10_doByDraw_64, sX10_doByDraw_67, sX10_doByDraw_68, sX10_doByDraw_69, sX10_doByDraw_70, sX10_doByDraw_73, kI_i, kL_l, kV_v, am_rv_s, am_kl_i, am_kl_r, am_kl_n, am_kl_l, true_and, and_true, and_self, true_or, or_true, implies_true, forall_const, not_true_eq_false, not_false_eq_true, false_implies, true_implies, if_true, if_false, Bool.true_eq_false, Bool.false_eq_true, ob_0, ob_3, ob_4, r_0_1, r_3_0, g4, cb, c, bz_t, i01, e3]
def XY (c j : Nat) : Prop := XA c j ∨ c = 440
theorem l_years {hv : Int32} {m : Nat} {sd : Int64} (hW : WR M) (hlim : lim ≤ 12) (hw : WFl S.1) (hl : S.1.length ≤ 12) (hP : PaC M ap lim P) (h : StC M 3 ap lim S) (hh : gI M 0 16 = hv) (hx : gL M 440 0 = x) (hm : m ≤ 20) (ht : S.2.2.2.1 + m ≤ 9999) : ∀ k, k ≤ m → ∃ M', (∀ d (Q : am_Q), ok (d + 5) mX10_years 488 Q 488 0 0 46 [some (.ref 0), some (.int (nI m)), some (.long sd), none, some (.int 0)] [] M = ok (d + 5) mX10_years 488 Q 488 0 0 46 [some (.ref 0), some (.int (nI m)), some (.long sd), none, some (.int (nI k))] [] M') ∧ StC M' 3 ap lim (yrF lim hv S P x k).1 ∧ PaC M' ap lim (yrF lim hv S P x k).2.1 ∧ gL M' 440 0 = (yrF lim hv S P x k).2.2 ∧ Fw XY M M' := by
  intro k
  induction k with
  | zero => exact fun _ => ⟨M, fun d Q => rfl, h, hP, hx, Fw.rf⟩
  | succ k ih =>
    intro hk
    obtain ⟨M1, e1, s1, p1, x1, f1⟩ := ih (by omega)
    obtain ⟨y1, y2, y3, y4⟩ := yr_ok (hv := hv) (P := P) (x := x) hlim hw hl k
    have es : yrF lim hv S P x (k + 1) = ((hap lim hv (tS (yrF lim hv S P x k).1) (yrF lim hv S P x k).2.2).1, paA (yrF lim hv S P x k).2.1 (yrF lim hv S P x k).1, (hap lim hv (tS (yrF lim hv S P x k).1) (yrF lim hv S P x k).2.2).2) := rfl
    rw [es]
    generalize hYY : yrF lim hv S P x k = Y at *
    obtain ⟨S1, P1, z1⟩ := Y
    simp only at s1 p1 x1 y1 y2 y3 y4
    have hW1 := f1.2 hW
    obtain ⟨M2, n, e2, s2, hn, p2, f2, w2⟩ := c_begin hW1 p1 s1
    have x2 : gL M2 440 0 = z1 := by rw [f2.L (by unfold XA XP2; omega)]; exact x1
    have h2 : gI M2 0 16 = hv := by rw [f2.I (by unfold XA XP2; omega), f1.I (by unfold XY XA XP2; omega)]; exact hh
    have be := fun d (Q : am_Q) => c_below (d := d) (Q := Q) (M := M2) (k := 10) (by omega) (by omega)
    have g10 : nI 10 = 10 := rfl
    rw [g10, x2] at be
    have s3 : StN (sL M2 440 0 (drX z1)) 3 ap lim (tS S1) n := s2
    have p3 : PaC (sL M2 440 0 (drX z1)) ap lim (paA P1 S1) := PaC_Fw (X := fun c _ => c = 440) (Fw.l rfl) (fun c j hc => by omega) p2
    have w3 : WR (sL M2 440 0 (drX z1)) := w2
    have h3 : gI (sL M2 440 0 (drX z1)) 0 16 = hv := h2
    have f3 : Fw XY M (sL M2 440 0 (drX z1)) := (f1.tr (f2.mo (fun c j z => Or.inl z))).tr (Fw.l (Or.inr rfl))
    have e0 : (nI m ≤ nI k) = False := by rw [nI_leE (by omega) (by omega)]; exact eq_false (by omega)
    unfold hap
    by_cases c : nI (drN z1 10) < hv
    · have c' := Int32.not_le.mpr c
      rw [if_pos c]
      obtain ⟨M4, e4, s4, x4, f4⟩ := c_tbd w3 s3 gL_e
      obtain ⟨n', s5, hn'⟩ := s4 (by omega)
      have ht5 : (tbS (tS S1) (drX z1)).1.2.2.2.1 = S1.2.2.2.1 + 1 := by unfold tbS; split <;> rfl
      refine ⟨M4, fun d Q => ?_, s5.c (by omega) (by omega), PaC_Fw f4 (fun c j hc => by unfold XT9; omega) p3, x4, f3.tr (f4.mo (fun c j z => by unfold XT9 at z; unfold XY XA; omega))⟩
      rw [e1, sX10_years_46]
      simp (disch := (first | assumption | omega | decide)) only [sX10_years_0, sX10_years_1, sX10_years_4, sX10_years_7, sX10_years_8, sX10_years_9, sX10_years_12, sX10_years_13, sX10_years_15, sX10_years_18, sX10_years_19, sX10_years_22, sX10_years_25, sX10_years_26, sX10_years_27, sX10_years_30, sX10_years_33, sX10_years_34, sX10_years_35, sX10_years_36, sX10_years_39, sX10_years_40, sX10_years_43, sX10_years_44, sX10_years_48, sX10_years_49, sX10_years_52, sX10_years_53, sX10_years_56, sX10_years_57, sX10_years_60, sX10_years_62, sX10_years_65, sX10_years_66, sX10_years_69, sX10_years_72, sX10_years_73, sX10_years_76, sX10_years_79, sX10_years_80, sX10_years_83, sX10_years_86, sX10_years_89, sX10_years_90, sX10_years_93, sX10_years_96, kI_i, kL_l, kV_v, am_rv_s, am_kl_i, am_kl_r, am_kl_n, am_kl_l, true_and, and_true, and_self, true_or, or_true, implies_true, forall_const, not_true_eq_false, not_false_eq_true, false_implies, true_implies, if_true, if_false, Bool.true_eq_false, Bool.false_eq_true, ob_0, ob_440, e0, e2, r_0_15, be, h3, c, c', e4, nI_1]
    · have c' := Int32.not_lt.mp c
      rw [if_neg c]
      obtain ⟨M4, e4, s4, x4, f4⟩ := c_dbd w3 hlim s3 gL_e
      obtain ⟨n', s5, hn'⟩ := s4 (by omega)
      have ht5 : (dbS lim (tS S1) (drX z1)).1.2.2.2.1 = S1.2.2.2.1 + 1 := by unfold dbS; simp only; split <;> rfl
      refine ⟨M4, fun d Q => ?_, s5.c (by omega) (by omega), PaC_Fw f4 (fun c j hc => by unfold XT9; omega) p3, x4, f3.tr (f4.mo (fun c j z => by unfold XT9 at z; unfold XY XA; omega))⟩
      rw [e1, sX10_years_46]
      simp (disch := (first | assumption | omega | decide)) only [sX10_years_0, sX10_years_1, sX10_years_4, sX10_years_7, sX10_years_8, sX10_years_9, sX10_years_12, sX10_years_13, sX10_years_15, sX10_years_18, sX10_years_19, sX10_years_22, sX10_years_25, sX10_years_26, sX10_years_27, sX10_years_30, sX10_years_33, sX10_years_34, sX10_years_35, sX10_years_36, sX10_years_39, sX10_years_40, sX10_years_43, sX10_years_44, sX10_years_48, sX10_years_49, sX10_years_52, sX10_years_53, sX10_years_56, sX10_years_57, sX10_years_60, sX10_years_62, sX10_years_65, sX10_years_66, sX10_years_69, sX10_years_72, sX10_years_73, sX10_years_76, sX10_years_79, sX10_years_80, sX10_years_83, sX10_years_86, sX10_years_89, sX10_years_90, sX10_years_93, sX10_years_96, kI_i, kL_l, kV_v, am_rv_s, am_kl_i, am_kl_r, am_kl_n, am_kl_l, true_and, and_true, and_self, true_or, or_true, implies_true, forall_const, not_true_eq_false, not_false_eq_true, false_implies, true_implies, if_true, if_false, Bool.true_eq_false, Bool.false_eq_true, ob_0, ob_440, e0, e2, r_0_15, be, h3, c, c', e4, nI_1]
def yearsA (ap lim : Nat) (hv : Int32) (S : Sg) (P : List Sg) (n : Int32) (sd : Int64) : Int32 × Sg × List Sg := if opn ap = true ∧ (1 ≤ n ∧ n ≤ 20) ∧ S.2.2.2.1 + n.toNatClampNeg ≤ 9999 then (nI (S.2.2.2.1 + n.toNatClampNeg), (yrF lim hv S P sd n.toNatClampNeg).1, (yrF lim hv S P sd n.toNatClampNeg).2.1) else (-1, S, P)
theorem c_years {hv n : Int32} {sd : Int64} (hW : WR M) (hlim : lim ≤ 12) (hw : WFl S.1) (hl : S.1.length ≤ 12) (hP : PaC M ap lim P) (h : StC M 3 ap lim S) (hh : gI M 0 16 = hv) : ∃ M', (∀ d (Q : am_Q), am_big (d + 6) mX10_years [.ref 0, .int n, .long sd] 488 M Q = Q (some (.int (yearsA ap lim hv S P n sd).1)) M') ∧ StC M' 3 ap lim (yearsA ap lim hv S P n sd).2.1 ∧ PaC M' ap lim (yearsA ap lim hv S P n sd).2.2 ∧ Fw XY M M' := by
  have io := fun d (Q : am_Q) => c_isOpen (d := d) (Q := Q) hW h
  have g5 := h.2.2.2.2.1
  have ht := h.2.2.2.2.2.2.2.2
  unfold yearsA
  cases c1 : opn ap with
  | false =>
    rw [if_neg (fun z => by cases z.1)]
    refine ⟨M, fun d Q => ?_, h, hP, Fw.rf⟩
    rw [eX10_years]
    simp (disch := (first | assumption | omega | decide)) only [sX10_years_0, sX10_years_1, sX10_years_4, sX10_years_7, sX10_years_8, sX10_years_9, sX10_years_12, sX10_years_13, sX10_years_15, sX10_years_18, sX10_years_19, sX10_years_22, sX10_years_25, sX10_years_26, sX10_years_27, sX10_years_30, sX10_years_33, sX10_years_34, sX10_years_35, sX10_years_36, sX10_years_39, sX10_years_40, sX10_years_43, sX10_years_44, sX10_years_48, sX10_years_49, sX10_years_52, sX10_years_53, sX10_years_56, sX10_years_57, sX10_years_60, sX10_years_62, sX10_years_65, sX10_years_66, sX10_years_69, sX10_years_72, sX10_years_73, sX10_years_76, sX10_years_79, sX10_years_80, sX10_years_83, sX10_years_86, sX10_years_89, sX10_years_90, sX10_years_93, sX10_years_96, kI_i, kL_l, kV_v, am_rv_s, am_kl_i, am_kl_r, am_kl_n, am_kl_l, true_and, and_true, and_self, true_or, or_true, implies_true, forall_const, not_true_eq_false, not_false_eq_true, false_implies, true_implies, if_true, if_false, Bool.true_eq_false, Bool.false_eq_true, ob_0, io, c1, bz_f]
  | true =>
    by_cases c2 : n < 1
    · rw [if_neg (fun z => absurd c2 (Int32.not_lt.mpr z.2.1.1))]
      refine ⟨M, fun d Q => ?_, h, hP, Fw.rf⟩
      rw [eX10_years]
      simp (disch := (first | assumption | omega | decide)) only [sX10_years_0, sX10_years_1, sX10_years_4, sX10_years_7, sX10_years_8, sX10_years_9, sX10_years_12, sX10_years_13, sX10_years_15, sX10_years_18, sX10_years_19, sX10_years_22, sX10_years_25, sX10_years_26, sX10_years_27, sX10_years_30, sX10_years_33, sX10_years_34, sX10_years_35, sX10_years_36, sX10_years_39, sX10_years_40, sX10_years_43, sX10_years_44, sX10_years_48, sX10_years_49, sX10_years_52, sX10_years_53, sX10_years_56, sX10_years_57, sX10_years_60, sX10_years_62, sX10_years_65, sX10_years_66, sX10_years_69, sX10_years_72, sX10_years_73, sX10_years_76, sX10_years_79, sX10_years_80, sX10_years_83, sX10_years_86, sX10_years_89, sX10_years_90, sX10_years_93, sX10_years_96, kI_i, kL_l, kV_v, am_rv_s, am_kl_i, am_kl_r, am_kl_n, am_kl_l, true_and, and_true, and_self, true_or, or_true, implies_true, forall_const, not_true_eq_false, not_false_eq_true, false_implies, true_implies, if_true, if_false, Bool.true_eq_false, Bool.false_eq_true, ob_0, io, c1, bz_t, i01, c2]
    · by_cases c3 : 20 < n
      · rw [if_neg (fun z => absurd c3 (Int32.not_lt.mpr z.2.1.2))]
        refine ⟨M, fun d Q => ?_, h, hP, Fw.rf⟩
        rw [eX10_years]
        simp (disch := (first | assumption | omega | decide)) only [sX10_years_0, sX10_years_1, sX10_years_4, sX10_years_7, sX10_years_8, sX10_years_9, sX10_years_12, sX10_years_13, sX10_years_15, sX10_years_18, sX10_years_19, sX10_years_22, sX10_years_25, sX10_years_26, sX10_years_27, sX10_years_30, sX10_years_33, sX10_years_34, sX10_years_35, sX10_years_36, sX10_years_39, sX10_years_40, sX10_years_43, sX10_years_44, sX10_years_48, sX10_years_49, sX10_years_52, sX10_years_53, sX10_years_56, sX10_years_57, sX10_years_60, sX10_years_62, sX10_years_65, sX10_years_66, sX10_years_69, sX10_years_72, sX10_years_73, sX10_years_76, sX10_years_79, sX10_years_80, sX10_years_83, sX10_years_86, sX10_years_89, sX10_years_90, sX10_years_93, sX10_years_96, kI_i, kL_l, kV_v, am_rv_s, am_kl_i, am_kl_r, am_kl_n, am_kl_l, true_and, and_true, and_self, true_or, or_true, implies_true, forall_const, not_true_eq_false, not_false_eq_true, false_implies, true_implies, if_true, if_false, Bool.true_eq_false, Bool.false_eq_true, ob_0, io, c1, bz_t, i01, c2, c3]
      · have hn1 := Int32.not_lt.mp c2
        have hn2 := Int32.not_lt.mp c3
        obtain ⟨m, hm, rfl⟩ := nI_of (x := n) (fun z => by
          have := Int32.le_trans hn1 (Int32.le_of_lt z)
          exact absurd this (by decide))
        have hm2 : m ≤ 20 := by rwa [show (20 : Int32) = nI 20 from rfl, nI_leE hm (by omega)] at hn2
        have ea : nI S.2.2.2.1 + nI m = nI (S.2.2.2.1 + m) := nI_add _ _
        have el : (nI (S.2.2.2.1 + m) ≤ 9999) = (S.2.2.2.1 + m ≤ 9999) := by rw [show (9999 : Int32) = nI 9999 from rfl, nI_leE (by omega) (by omega)]
        rw [nI_clamp hm]
        by_cases c4 : S.2.2.2.1 + m ≤ 9999
        · rw [if_pos ⟨rfl, ⟨hn1, hn2⟩, c4⟩]
          have hW1 : WR (sL M 440 0 sd) := hW
          have h1 : StC (sL M 440 0 sd) 3 ap lim S := h
          have hP1 : PaC (sL M 440 0 sd) ap lim P := PaC_Fw (X := fun c _ => c = 440) (Fw.l rfl) (fun c j hc => by omega) hP
          obtain ⟨M', e, s, p, _, f⟩ := l_years (sd := sd) hW1 hlim hw hl hP1 h1 hh gL_e hm2 c4 m (Nat.le_refl _)
          have hW' := f.2 hW1
          have gt : gI M' 3 5 = nI (S.2.2.2.1 + m) := by
            rw [s.2.2.2.2.1, (yr_ok (hv := hv) (P := P) (x := sd) hlim hw hl m).2.2.2]
          refine ⟨M', fun d Q => ?_, s, p, (Fw.l (Or.inr rfl)).tr f⟩
          have e' := e d Q
          rw [eX10_years]
          simp (disch := (first | assumption | omega | decide)) only [sX10_years_0, sX10_years_1, sX10_years_4, sX10_years_7, sX10_years_8, sX10_years_9, sX10_years_12, sX10_years_13, sX10_years_15, sX10_years_18, sX10_years_19, sX10_years_22, sX10_years_25, sX10_years_26, sX10_years_27, sX10_years_30, sX10_years_33, sX10_years_34, sX10_years_35, sX10_years_36, sX10_years_39, sX10_years_40, sX10_years_43, sX10_years_44, sX10_years_48, sX10_years_49, sX10_years_52, sX10_years_53, sX10_years_56, sX10_years_57, sX10_years_60, sX10_years_62, sX10_years_65, sX10_years_66, sX10_years_69, sX10_years_72, sX10_years_73, sX10_years_76, sX10_years_79, sX10_years_80, sX10_years_83, sX10_years_86, sX10_years_89, sX10_years_90, sX10_years_93, sX10_years_96, kI_i, kL_l, kV_v, am_rv_s, am_kl_i, am_kl_r, am_kl_n, am_kl_l, true_and, and_true, and_self, true_or, or_true, implies_true, forall_const, not_true_eq_false, not_false_eq_true, false_implies, true_implies, if_true, if_false, Bool.true_eq_false, Bool.false_eq_true, ob_0, ob_3, ob_440, io, c1, bz_t, i01, c2, c3, r_0_1, g5, ea, el, c4, r_0_15, kl_n, e']
          rw [sX10_years_46]
          simp (disch := (first | assumption | omega | decide)) only [sX10_years_0, sX10_years_1, sX10_years_4, sX10_years_7, sX10_years_8, sX10_years_9, sX10_years_12, sX10_years_13, sX10_years_15, sX10_years_18, sX10_years_19, sX10_years_22, sX10_years_25, sX10_years_26, sX10_years_27, sX10_years_30, sX10_years_33, sX10_years_34, sX10_years_35, sX10_years_36, sX10_years_39, sX10_years_40, sX10_years_43, sX10_years_44, sX10_years_48, sX10_years_49, sX10_years_52, sX10_years_53, sX10_years_56, sX10_years_57, sX10_years_60, sX10_years_62, sX10_years_65, sX10_years_66, sX10_years_69, sX10_years_72, sX10_years_73, sX10_years_76, sX10_years_79, sX10_years_80, sX10_years_83, sX10_years_86, sX10_years_89, sX10_years_90, sX10_years_93, sX10_years_96, kI_i, kL_l, kV_v, am_rv_s, am_kl_i, am_kl_r, am_kl_n, am_kl_l, true_and, and_true, and_self, true_or, or_true, implies_true, forall_const, not_true_eq_false, not_false_eq_true, false_implies, true_implies, if_true, if_false, Bool.true_eq_false, Bool.false_eq_true, ob_0, ob_3, r_0_1, Int32.le_refl, gt]
        · rw [if_neg (fun z => c4 z.2.2)]
          refine ⟨M, fun d Q => ?_, h, hP, Fw.rf⟩
          rw [eX10_years]
          simp (disch := (first | assumption | omega | decide)) only [sX10_years_0, sX10_years_1, sX10_years_4, sX10_years_7, sX10_years_8, sX10_years_9, sX10_years_12, sX10_years_13, sX10_years_15, sX10_years_18, sX10_years_19, sX10_years_22, sX10_years_25, sX10_years_26, sX10_years_27, sX10_years_30, sX10_years_33, sX10_years_34, sX10_years_35, sX10_years_36, sX10_years_39, sX10_years_40, sX10_years_43, sX10_years_44, sX10_years_48, sX10_years_49, sX10_years_52, sX10_years_53, sX10_years_56, sX10_years_57, sX10_years_60, sX10_years_62, sX10_years_65, sX10_years_66, sX10_years_69, sX10_years_72, sX10_years_73, sX10_years_76, sX10_years_79, sX10_years_80, sX10_years_83, sX10_years_86, sX10_years_89, sX10_years_90, sX10_years_93, sX10_years_96, kI_i, kL_l, kV_v, am_rv_s, am_kl_i, am_kl_r, am_kl_n, am_kl_l, true_and, and_true, and_self, true_or, or_true, implies_true, forall_const, not_true_eq_false, not_false_eq_true, false_implies, true_implies, if_true, if_false, Bool.true_eq_false, Bool.false_eq_true, ob_0, ob_3, io, c1, bz_t, i01, c2, c3, r_0_1, g5, ea, el, c4]
end
