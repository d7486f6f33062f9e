section
variable {M N : am_M} {ap lim n : Nat} {S : Sg} {P : List Sg} {l : List Dd} {d : Nat} {Q : am_Q} {LL : List (List Nat)} {h : Int32}
def XCG (c j : Nat) : Prop := XC c j ∨ c = 482
/-- what the reference's game needs to stand -/
def GmM (N : am_M) (ap : Nat) (LL : List (List Nat)) (h : Int32) (S : Sg) : Prop := WR N ∧ LbM N LL h ∧ StM N 465 0 ap S ∧ ∀ k, k < S.1.length → gI N 475 k = nI (ab S.1 S.1.length k)
theorem GmM_s {s : Nat} {v : Int32} (g : GmM N ap LL h S) : GmM (sI N 482 s v) ap LL h S := by
  obtain ⟨g1, g2, g3, g4⟩ := g
  have f : Fw (fun c _ => c = 482) N (sI N 482 s v) := Fw.s rfl
  exact ⟨g1, LbM_Fw f (fun c j hc => by omega) g2, StM_Fw f (fun j => by omega) g3, fun k hk => (f.I (by omega)).trans (g4 k hk)⟩
theorem GmM_c {N' : am_M} (hF : Fw XC N N') (lb : LbM N' LL h) (g : GmM N ap LL h S) : GmM N' ap LL h S := by
  obtain ⟨g1, g2, g3, g4⟩ := g
  exact ⟨hF.2 g1, lb, StM_Fw hF (fun j => by unfold XC XC0 XG; omega) g3, fun k hk => (hF.I (by unfold XC XC0 XG; omega)).trans (g4 k hk)⟩
theorem GmM_36 (g : GmM N ap LL h S) : gI N 465 36 = nI S.1.length := by have := g.2.2.1.2.1; rwa [Nat.zero_add] at this
theorem lm_gin {s : Nat} (ht : S.2.2.2.1 ≤ 9999) (hw : WFl S.1) (hs0 : s ≠ 0) (hs : s < 2 ^ S.1.length) (g : GmM N ap LL h S) (hT : ∀ i, i < s → gI N 482 i = gW S.1 (gcs LL h S) i) : ∀ k, k ≤ S.1.length → ∃ M', (∀ d (Q : am_Q), 32 ≤ d → ok d mX11_laysGame 488 Q 488 0 0 32 [some (.ref 457), some (.int (nI s)), some (.int m6K), some (.int 0)] [] N = ok d mX11_laysGame 488 Q 488 0 0 32 [some (.ref 457), some (.int (nI s)), some (.int (mxF (gcl S.1 s) (fun t => gcs LL h S t - gW S.1 (gcs LL h S) (s ^^^ 2 ^ t)) k)), some (.int (nI k))] [] M') ∧ GmM M' ap LL h S ∧ Fw XC N M' := by
  have hl := g.2.2.1.1
  have pl : (2 : Nat) ^ S.1.length ≤ 4096 := Nat.le_trans (Nat.pow_le_pow_right (by omega) hl) (by omega)
  intro k
  induction k with
  | zero => exact fun _ => ⟨N, fun d Q _ => rfl, g, Fw.rf⟩
  | succ k ih =>
    intro hk
    obtain ⟨M1, e1, g1, f1⟩ := ih (by omega)
    have hW1 := g1.1
    have g36 := GmM_36 g1
    have hkl : k < S.1.length := by omega
    have ga := g1.2.2.2 k hkl
    have e0 : (nI S.1.length ≤ nI k) = False := by rw [nI_leE (by omega) (by omega)]; exact eq_false (by omega)
    have ck : (nI k).toNatClampNeg = k := nI_clamp (by omega)
    have i5 := fun (M : am_M) => in_475 (M := M) (k := k) (by omega)
    have i36 := fun (M : am_M) => in_465 (M := M) (k := 36) (by omega)
    have nb : decide ((nI s >>> (nI k &&& 31)) &&& 1 = 1) = s.testBit k := by rw [nI_bit (by omega) (by omega)]; cases s.testBit k <;> rfl
    have le : ab S.1 S.1.length k &&& s < 2 ^ 31 := Nat.lt_of_le_of_lt Nat.and_le_right (by omega)
    have z0 := nI_z0 le
    rw [mxF]
    cases c : gcl S.1 s k with
    | false =>
      refine ⟨M1, fun d Q hd => ?_, g1, f1⟩
      rw [if_neg (by decide), e1 d Q hd, sX11_laysGame_32]
      obtain ⟨d', rfl⟩ : ∃ d', d = d' + 1 := ⟨d - 1, by omega⟩
      unfold gcl at c
      cases cb : s.testBit k with
      | false => simp (disch := (first | assumption | omega | decide)) only [sX11_laysGame_0, sX11_laysGame_1, sX11_laysGame_4, sX11_laysGame_5, sX11_laysGame_8, sX11_laysGame_9, sX11_laysGame_10, sX11_laysGame_11, sX11_laysGame_12, sX11_laysGame_14, sX11_laysGame_15, sX11_laysGame_16, sX11_laysGame_19, sX11_laysGame_21, sX11_laysGame_22, sX11_laysGame_23, sX11_laysGame_26, sX11_laysGame_29, sX11_laysGame_30, sX11_laysGame_31, sX11_laysGame_33, sX11_laysGame_34, sX11_laysGame_37, sX11_laysGame_39, sX11_laysGame_40, sX11_laysGame_43, sX11_laysGame_44, sX11_laysGame_45, sX11_laysGame_48, sX11_laysGame_51, sX11_laysGame_52, sX11_laysGame_55, sX11_laysGame_56, sX11_laysGame_57, sX11_laysGame_58, sX11_laysGame_59, sX11_laysGame_62, sX11_laysGame_63, sX11_laysGame_64, sX11_laysGame_65, sX11_laysGame_66, sX11_laysGame_67, sX11_laysGame_70, sX11_laysGame_71, sX11_laysGame_74, sX11_laysGame_75, sX11_laysGame_76, sX11_laysGame_77, sX11_laysGame_78, sX11_laysGame_79, sX11_laysGame_80, sX11_laysGame_81, sX11_laysGame_82, sX11_laysGame_83, sX11_laysGame_86, sX11_laysGame_87, sX11_laysGame_90, sX11_laysGame_93, sX11_laysGame_94, sX11_laysGame_97, sX11_laysGame_98, sX11_laysGame_99, sX11_laysGame_100, sX11_laysGame_103, sX11_laysGame_106, kI_i, kL_l, kV_v, am_rv_s, am_kl_i, am_kl_r, am_kl_n, am_kl_l, true_and, and_true, and_self, true_or, or_true, implies_true, forall_const, not_true_eq_false, not_false_eq_true, false_implies, true_implies, if_true, if_false, Bool.true_eq_false, Bool.false_eq_true, ob_457, r_457_27, n36, i36, nI_clamp (show 36 < 2147483648 by omega), g36, e0, m_has, nb, cb, bz_f, nI_1]
      | true =>
        rw [cb, Bool.true_and] at c
        have c' := of_decide_eq_false c
        simp (disch := (first | assumption | omega | decide)) only [sX11_laysGame_0, sX11_laysGame_1, sX11_laysGame_4, sX11_laysGame_5, sX11_laysGame_8, sX11_laysGame_9, sX11_laysGame_10, sX11_laysGame_11, sX11_laysGame_12, sX11_laysGame_14, sX11_laysGame_15, sX11_laysGame_16, sX11_laysGame_19, sX11_laysGame_21, sX11_laysGame_22, sX11_laysGame_23, sX11_laysGame_26, sX11_laysGame_29, sX11_laysGame_30, sX11_laysGame_31, sX11_laysGame_33, sX11_laysGame_34, sX11_laysGame_37, sX11_laysGame_39, sX11_laysGame_40, sX11_laysGame_43, sX11_laysGame_44, sX11_laysGame_45, sX11_laysGame_48, sX11_laysGame_51, sX11_laysGame_52, sX11_laysGame_55, sX11_laysGame_56, sX11_laysGame_57, sX11_laysGame_58, sX11_laysGame_59, sX11_laysGame_62, sX11_laysGame_63, sX11_laysGame_64, sX11_laysGame_65, sX11_laysGame_66, sX11_laysGame_67, sX11_laysGame_70, sX11_laysGame_71, sX11_laysGame_74, sX11_laysGame_75, sX11_laysGame_76, sX11_laysGame_77, sX11_laysGame_78, sX11_laysGame_79, sX11_laysGame_80, sX11_laysGame_81, sX11_laysGame_82, sX11_laysGame_83, sX11_laysGame_86, sX11_laysGame_87, sX11_laysGame_90, sX11_laysGame_93, sX11_laysGame_94, sX11_laysGame_97, sX11_laysGame_98, sX11_laysGame_99, sX11_laysGame_100, sX11_laysGame_103, sX11_laysGame_106, kI_i, kL_l, kV_v, am_rv_s, am_kl_i, am_kl_r, am_kl_n, am_kl_l, true_and, and_true, and_self, true_or, or_true, implies_true, forall_const, not_true_eq_false, not_false_eq_true, false_implies, true_implies, if_true, if_false, Bool.true_eq_false, Bool.false_eq_true, ob_457, r_457_27, r_457_39, n36, i36, nI_clamp (show 36 < 2147483648 by omega), g36, e0, m_has, nb, cb, bz_t, i01, i5, ck, ga, nI_and, z0, c', nI_1]
    | true =>
      have cc := c
      unfold gcl at cc
      rw [Bool.and_eq_true, decide_eq_true_eq] at cc
      obtain ⟨cb, ca⟩ := cc
      have ca' := eq_true ca
      obtain ⟨M2, e2, lb2, f2⟩ := m_costAt (n := 0) (b := 5) hW1 g1.2.1 g1.2.2.1 ht hw hkl (by omega) (by omega)
      have eg : prc LL h (sf S.1 k) (pf S.1 k) (xf S.1 k) (nI 0) (nI 5) (nI S.2.2.2.1) = gcs LL h S k := rfl
      rw [eg] at e2
      have hW2 := f2.2 hW1
      have xl := x_lt cb
      have gt : gI M2 482 (s ^^^ 2 ^ k) = gW S.1 (gcs LL h S) (s ^^^ 2 ^ k) := by
        rw [f2.I (by unfold XC XC0 XG; omega), f1.I (by unfold XC XC0 XG; omega)]; exact hT _ xl
      have cx : (nI (s ^^^ 2 ^ k)).toNatClampNeg = s ^^^ 2 ^ k := nI_clamp (by omega)
      have i8 := fun (M : am_M) => in_482 (M := M) (k := s ^^^ 2 ^ k) (by omega)
      refine ⟨M2, fun d Q hd => ?_, GmM_c f2 lb2 g1, f1.tr f2⟩
      have e2' := fun (Q : am_Q) => e2 d Q hd
      rw [show nI 0 = 0 from rfl, show nI 5 = 5 from rfl] at e2'
      rw [if_pos rfl, e1 d Q hd, sX11_laysGame_32]
      obtain ⟨d', rfl⟩ : ∃ d', d = d' + 1 := ⟨d - 1, by omega⟩
      simp (disch := (first | assumption | omega | decide)) only [sX11_laysGame_0, sX11_laysGame_1, sX11_laysGame_4, sX11_laysGame_5, sX11_laysGame_8, sX11_laysGame_9, sX11_laysGame_10, sX11_laysGame_11, sX11_laysGame_12, sX11_laysGame_14, sX11_laysGame_15, sX11_laysGame_16, sX11_laysGame_19, sX11_laysGame_21, sX11_laysGame_22, sX11_laysGame_23, sX11_laysGame_26, sX11_laysGame_29, sX11_laysGame_30, sX11_laysGame_31, sX11_laysGame_33, sX11_laysGame_34, sX11_laysGame_37, sX11_laysGame_39, sX11_laysGame_40, sX11_laysGame_43, sX11_laysGame_44, sX11_laysGame_45, sX11_laysGame_48, sX11_laysGame_51, sX11_laysGame_52, sX11_laysGame_55, sX11_laysGame_56, sX11_laysGame_57, sX11_laysGame_58, sX11_laysGame_59, sX11_laysGame_62, sX11_laysGame_63, sX11_laysGame_64, sX11_laysGame_65, sX11_laysGame_66, sX11_laysGame_67, sX11_laysGame_70, sX11_laysGame_71, sX11_laysGame_74, sX11_laysGame_75, sX11_laysGame_76, sX11_laysGame_77, sX11_laysGame_78, sX11_laysGame_79, sX11_laysGame_80, sX11_laysGame_81, sX11_laysGame_82, sX11_laysGame_83, sX11_laysGame_86, sX11_laysGame_87, sX11_laysGame_90, sX11_laysGame_93, sX11_laysGame_94, sX11_laysGame_97, sX11_laysGame_98, sX11_laysGame_99, sX11_laysGame_100, sX11_laysGame_103, sX11_laysGame_106, kI_i, kL_l, kV_v, am_rv_s, am_kl_i, am_kl_r, am_kl_n, am_kl_l, true_and, and_true, and_self, true_or, or_true, implies_true, forall_const, not_true_eq_false, not_false_eq_true, false_implies, true_implies, if_true, if_false, Bool.true_eq_false, Bool.false_eq_true, ob_457, r_457_27, r_457_39, r_457_48, n36, i36, nI_clamp (show 36 < 2147483648 by omega), g36, e0, m_has, nb, cb, bz_t, i01, i5, ck, ga, nI_and, z0, ca', e2', shl1 k (by omega), nI_drop cb, i8, cx, gt, nI_1]
theorem m_laysGame (hr : RS M ap lim S P) (hb : LbM M LL h) : ∃ M', (∀ d (Q : am_Q), 33 ≤ d → am_big d mX11_laysGame [.ref 457] 488 M Q = Q none M') ∧ GmM M' ap LL h S ∧ (∀ i, i < 2 ^ S.1.length → gI M' 482 i = gW S.1 (gcs LL h S) i) ∧ Fw (fun c j => XCG c j ∨ XN c j) M M' := by
  obtain ⟨hW, hS, hPa, hf, hm, hw, hlim, ht⟩ := id hr
  have hl := hS.1
  have pl : (2 : Nat) ^ S.1.length ≤ 4096 := Nat.le_trans (Nat.pow_le_pow_right (by omega) hl) (by omega)
  have pp : 0 < (2 : Nat) ^ S.1.length := Nat.pow_pos (by omega)
  have ln := fun d (Q : am_Q) => m_laysNeeds (d := d) (Q := Q) hW hS.p hw
  have fn := Fw_nd (M := M) (l := S.1)
  have g0 : GmM (nd3 M S.1) ap LL h S := ⟨fn.2 hW, LbM_Fw fn (fun c j hc => by unfold XN; omega) hb, StM_Fw fn (fun j => by unfold XN; omega) hS, fun k hk => nd_d hk⟩
  have g1 := GmM_s (s := 0) (v := 0) g0
  have key : ∀ k, 1 ≤ k → k ≤ 2 ^ S.1.length → ∀ l2 l3 : Option Value, ∃ M' l2' l3', (∀ d (Q : am_Q), 32 ≤ d → ok d mX11_laysGame 488 Q 488 0 0 13 [some (.ref 457), some (.int 1), l2, l3] [] (sI (nd3 M S.1) 482 0 0) = ok d mX11_laysGame 488 Q 488 0 0 13 [some (.ref 457), some (.int (nI k)), l2', l3'] [] M') ∧ GmM M' ap LL h S ∧ (∀ i, i < k → gI M' 482 i = gW S.1 (gcs LL h S) i) ∧ Fw XCG (sI (nd3 M S.1) 482 0 0) M' := by
    intro k
    induction k with
    | zero => intro h1; omega
    | succ k ih =>
      intro _ hk l2 l3
      by_cases z : k = 0
      · subst z
        exact ⟨_, l2, l3, fun d Q _ => rfl, g1, fun i hi => by
          rw [show i = 0 by omega]
          exact gI_e, Fw.rf⟩
      · obtain ⟨M1, l2', l3', e1, gm1, t1, f1⟩ := ih (by omega) (by omega) l2 l3
        obtain ⟨M2, e2, gm2, f2⟩ := lm_gin ht hw z (by omega) gm1 t1 S.1.length (Nat.le_refl _)
        rw [← gW_s z (by omega) hl] at e2
        have ck : (nI k).toNatClampNeg = k := nI_clamp (by omega)
        have w2 := iw_482 (k := k) (by omega)
        have i36 := fun (M : am_M) => in_465 (M := M) (k := 36) (by omega)
        have e0 : (nI (2 ^ S.1.length) ≤ nI k) = False := by rw [nI_leE (by omega) (by omega)]; exact eq_false (by omega)
        have hW1 := gm1.1
        have hW2 := gm2.1
        have q1 := GmM_36 gm1
        have q2 := GmM_36 gm2
        refine ⟨sI M2 482 k (gW S.1 (gcs LL h S) k), some (.int (gW S.1 (gcs LL h S) k)), some (.int (nI S.1.length)), fun d Q hd => ?_, GmM_s gm2, fun i hi => ?_, (f1.tr (f2.mo (fun c j z => Or.inl z))).tr (Fw.s (Or.inr rfl))⟩
        · rw [e1 d Q hd, sX11_laysGame_13]
          simp (disch := (first | assumption | omega | decide)) only [sX11_laysGame_0, sX11_laysGame_1, sX11_laysGame_4, sX11_laysGame_5, sX11_laysGame_8, sX11_laysGame_9, sX11_laysGame_10, sX11_laysGame_11, sX11_laysGame_12, sX11_laysGame_14, sX11_laysGame_15, sX11_laysGame_16, sX11_laysGame_19, sX11_laysGame_21, sX11_laysGame_22, sX11_laysGame_23, sX11_laysGame_26, sX11_laysGame_29, sX11_laysGame_30, sX11_laysGame_31, sX11_laysGame_33, sX11_laysGame_34, sX11_laysGame_37, sX11_laysGame_39, sX11_laysGame_40, sX11_laysGame_43, sX11_laysGame_44, sX11_laysGame_45, sX11_laysGame_48, sX11_laysGame_51, sX11_laysGame_52, sX11_laysGame_55, sX11_laysGame_56, sX11_laysGame_57, sX11_laysGame_58, sX11_laysGame_59, sX11_laysGame_62, sX11_laysGame_63, sX11_laysGame_64, sX11_laysGame_65, sX11_laysGame_66, sX11_laysGame_67, sX11_laysGame_70, sX11_laysGame_71, sX11_laysGame_74, sX11_laysGame_75, sX11_laysGame_76, sX11_laysGame_77, sX11_laysGame_78, sX11_laysGame_79, sX11_laysGame_80, sX11_laysGame_81, sX11_laysGame_82, sX11_laysGame_83, sX11_laysGame_86, sX11_laysGame_87, sX11_laysGame_90, sX11_laysGame_93, sX11_laysGame_94, sX11_laysGame_97, sX11_laysGame_98, sX11_laysGame_99, sX11_laysGame_100, sX11_laysGame_103, sX11_laysGame_106, kI_i, kL_l, kV_v, am_rv_s, am_kl_i, am_kl_r, am_kl_n, am_kl_l, true_and, and_true, and_self, true_or, or_true, implies_true, forall_const, not_true_eq_false, not_false_eq_true, false_implies, true_implies, if_true, if_false, Bool.true_eq_false, Bool.false_eq_true, ob_457, r_457_27, n36, i36, nI_clamp (show 36 < 2147483648 by omega), q1, shl1 S.1.length (by omega), e0, m6e, e2 d Q hd]
          rw [sX11_laysGame_32]
          simp (disch := (first | assumption | omega | decide)) only [sX11_laysGame_0, sX11_laysGame_1, sX11_laysGame_4, sX11_laysGame_5, sX11_laysGame_8, sX11_laysGame_9, sX11_laysGame_10, sX11_laysGame_11, sX11_laysGame_12, sX11_laysGame_14, sX11_laysGame_15, sX11_laysGame_16, sX11_laysGame_19, sX11_laysGame_21, sX11_laysGame_22, sX11_laysGame_23, sX11_laysGame_26, sX11_laysGame_29, sX11_laysGame_30, sX11_laysGame_31, sX11_laysGame_33, sX11_laysGame_34, sX11_laysGame_37, sX11_laysGame_39, sX11_laysGame_40, sX11_laysGame_43, sX11_laysGame_44, sX11_laysGame_45, sX11_laysGame_48, sX11_laysGame_51, sX11_laysGame_52, sX11_laysGame_55, sX11_laysGame_56, sX11_laysGame_57, sX11_laysGame_58, sX11_laysGame_59, sX11_laysGame_62, sX11_laysGame_63, sX11_laysGame_64, sX11_laysGame_65, sX11_laysGame_66, sX11_laysGame_67, sX11_laysGame_70, sX11_laysGame_71, sX11_laysGame_74, sX11_laysGame_75, sX11_laysGame_76, sX11_laysGame_77, sX11_laysGame_78, sX11_laysGame_79, sX11_laysGame_80, sX11_laysGame_81, sX11_laysGame_82, sX11_laysGame_83, sX11_laysGame_86, sX11_laysGame_87, sX11_laysGame_90, sX11_laysGame_93, sX11_laysGame_94, sX11_laysGame_97, sX11_laysGame_98, sX11_laysGame_99, sX11_laysGame_100, sX11_laysGame_103, sX11_laysGame_106, kI_i, kL_l, kV_v, am_rv_s, am_kl_i, am_kl_r, am_kl_n, am_kl_l, true_and, and_true, and_self, true_or, or_true, implies_true, forall_const, not_true_eq_false, not_false_eq_true, false_implies, true_implies, if_true, if_false, Bool.true_eq_false, Bool.false_eq_true, ob_457, r_457_27, r_457_48, n36, i36, nI_clamp (show 36 < 2147483648 by omega), q2, Int32.le_refl, w2, ck, nI_1]
        · by_cases ek : i = k
          · subst ek; exact gI_e
          · rw [gI_j ek, f2.I (by unfold XC XC0 XG; omega)]
            exact t1 i (by omega)
  obtain ⟨M', l2', l3', e, gm, t, f⟩ := key (2 ^ S.1.length) (by omega) (Nat.le_refl _) none none
  refine ⟨M', fun d Q hd => ?_, gm, t, ((fn.mo (Y := fun c j => XCG c j ∨ XN c j) (fun c j z => Or.inr z)).tr (Fw.s (X := fun c j => XCG c j ∨ XN c j) (Or.inl (Or.inr rfl)))).tr (f.mo (fun c j z => Or.inl z))⟩
  obtain ⟨d', rfl⟩ : ∃ d', d = d' + 3 := ⟨d - 3, by omega⟩
  have e' := e (d' + 2) Q (by omega)
  have w0 : am_iw 488 482 1 0 = True := iw_482 (k := 0) (by omega)
  have c0 : (0 : Int32).toNatClampNeg = 0 := rfl
  have hWn := fn.2 hW
  have hW' := gm.1
  have q := GmM_36 gm
  have i36 := fun (M : am_M) => in_465 (M := M) (k := 36) (by omega)
  rw [eX11_laysGame]
  simp (disch := (first | assumption | omega | decide)) only [sX11_laysGame_0, sX11_laysGame_1, sX11_laysGame_4, sX11_laysGame_5, sX11_laysGame_8, sX11_laysGame_9, sX11_laysGame_10, sX11_laysGame_11, sX11_laysGame_12, sX11_laysGame_14, sX11_laysGame_15, sX11_laysGame_16, sX11_laysGame_19, sX11_laysGame_21, sX11_laysGame_22, sX11_laysGame_23, sX11_laysGame_26, sX11_laysGame_29, sX11_laysGame_30, sX11_laysGame_31, sX11_laysGame_33, sX11_laysGame_34, sX11_laysGame_37, sX11_laysGame_39, sX11_laysGame_40, sX11_laysGame_43, sX11_laysGame_44, sX11_laysGame_45, sX11_laysGame_48, sX11_laysGame_51, sX11_laysGame_52, sX11_laysGame_55, sX11_laysGame_56, sX11_laysGame_57, sX11_laysGame_58, sX11_laysGame_59, sX11_laysGame_62, sX11_laysGame_63, sX11_laysGame_64, sX11_laysGame_65, sX11_laysGame_66, sX11_laysGame_67, sX11_laysGame_70, sX11_laysGame_71, sX11_laysGame_74, sX11_laysGame_75, sX11_laysGame_76, sX11_laysGame_77, sX11_laysGame_78, sX11_laysGame_79, sX11_laysGame_80, sX11_laysGame_81, sX11_laysGame_82, sX11_laysGame_83, sX11_laysGame_86, sX11_laysGame_87, sX11_laysGame_90, sX11_laysGame_93, sX11_laysGame_94, sX11_laysGame_97, sX11_laysGame_98, sX11_laysGame_99, sX11_laysGame_100, sX11_laysGame_103, sX11_laysGame_106, kI_i, kL_l, kV_v, am_rv_s, am_kl_i, am_kl_r, am_kl_n, am_kl_l, true_and, and_true, and_self, true_or, or_true, implies_true, forall_const, not_true_eq_false, not_false_eq_true, false_implies, true_implies, if_true, if_false, Bool.true_eq_false, Bool.false_eq_true, ob_457, ln, r_457_48, w0, c0, e']
  rw [sX11_laysGame_13]
  simp (disch := (first | assumption | omega | decide)) only [sX11_laysGame_0, sX11_laysGame_1, sX11_laysGame_4, sX11_laysGame_5, sX11_laysGame_8, sX11_laysGame_9, sX11_laysGame_10, sX11_laysGame_11, sX11_laysGame_12, sX11_laysGame_14, sX11_laysGame_15, sX11_laysGame_16, sX11_laysGame_19, sX11_laysGame_21, sX11_laysGame_22, sX11_laysGame_23, sX11_laysGame_26, sX11_laysGame_29, sX11_laysGame_30, sX11_laysGame_31, sX11_laysGame_33, sX11_laysGame_34, sX11_laysGame_37, sX11_laysGame_39, sX11_laysGame_40, sX11_laysGame_43, sX11_laysGame_44, sX11_laysGame_45, sX11_laysGame_48, sX11_laysGame_51, sX11_laysGame_52, sX11_laysGame_55, sX11_laysGame_56, sX11_laysGame_57, sX11_laysGame_58, sX11_laysGame_59, sX11_laysGame_62, sX11_laysGame_63, sX11_laysGame_64, sX11_laysGame_65, sX11_laysGame_66, sX11_laysGame_67, sX11_laysGame_70, sX11_laysGame_71, sX11_laysGame_74, sX11_laysGame_75, sX11_laysGame_76, sX11_laysGame_77, sX11_laysGame_78, sX11_laysGame_79, sX11_laysGame_80, sX11_laysGame_81, sX11_laysGame_82, sX11_laysGame_83, sX11_laysGame_86, sX11_laysGame_87, sX11_laysGame_90, sX11_laysGame_93, sX11_laysGame_94, sX11_laysGame_97, sX11_laysGame_98, sX11_laysGame_99, sX11_laysGame_100, sX11_laysGame_103, sX11_laysGame_106, kI_i, kL_l, kV_v, am_rv_s, am_kl_i, am_kl_r, am_kl_n, am_kl_l, true_and, and_true, and_self, true_or, or_true, implies_true, forall_const, not_true_eq_false, not_false_eq_true, false_implies, true_implies, if_true, if_false, Bool.true_eq_false, Bool.false_eq_true, ob_457, r_457_27, n36, i36, nI_clamp (show 36 < 2147483648 by omega), q, shl1 S.1.length (by omega), Int32.le_refl]
def XMG (c j : Nat) : Prop := XCG c j ∨ XN c j ∨ (c = 457 ∧ j = 0)
theorem ab_full {t : Nat} (ht : t < l.length) : gcl l (2 ^ l.length - 1) t = decide (ab l l.length t = 0) := by
  unfold gcl
  rw [Nat.testBit_two_pow_sub_one, decide_eq_true ht, Bool.true_and]
  have e : ab l l.length t &&& (2 ^ l.length - 1) = ab l l.length t := Nat.and_two_pow_sub_one_of_lt_two_pow ab_lt
  rw [e]
theorem lm_first {w : Int32} (ht : S.2.2.2.1 ≤ 9999) (hw : WFl S.1) (g : GmM N ap LL h S) (hT : ∀ i, i < 2 ^ S.1.length → gI N 482 i = gW S.1 (gcs LL h S) i) {j : Nat} (hj : j < S.1.length) (cj : gcl S.1 (2 ^ S.1.length - 1) j = true) (mj : gW S.1 (gcs LL h S) (2 ^ S.1.length - 1) = gcs LL h S j - gW S.1 (gcs LL h S) ((2 ^ S.1.length - 1) ^^^ 2 ^ j)) (fj : ∀ t, t < j → gcl S.1 (2 ^ S.1.length - 1) t = true → ¬ gcs LL h S t - gW S.1 (gcs LL h S) ((2 ^ S.1.length - 1) ^^^ 2 ^ t) = gW S.1 (gcs LL h S) (2 ^ S.1.length - 1)) : ∀ (f k : Nat) (N : am_M), k + f = j → GmM N ap LL h S → (∀ i, i < 2 ^ S.1.length → gI N 482 i = gW S.1 (gcs LL h S) i) → ∃ M', (∀ d (Q : am_Q), 32 ≤ d → ok d mX11_game 488 Q 488 0 0 55 [some (.ref 457), some (.int w), some (.int (nI (2 ^ S.1.length - 1))), some (.int (nI k))] [] N = Q (some (.int (nI j))) M') ∧ LbM M' LL h ∧ Fw XC N M' := by
  have hl := g.2.2.1.1
  have pl : (2 : Nat) ^ S.1.length ≤ 4096 := Nat.le_trans (Nat.pow_le_pow_right (by omega) hl) (by omega)
  have pp : 0 < (2 : Nat) ^ S.1.length := Nat.pow_pos (by omega)
  -- one place: what is asked there
  have one : ∀ (k : Nat) (N : am_M), k < S.1.length → GmM N ap LL h S → (∀ i, i < 2 ^ S.1.length → gI N 482 i = gW S.1 (gcs LL h S) i) → (gcl S.1 (2 ^ S.1.length - 1) k = true → ∃ M', LbM M' LL h ∧ Fw XC N M' ∧ ∀ d (Q : am_Q), 32 ≤ d → ok d mX11_game 488 Q 488 0 0 55 [some (.ref 457), some (.int w), some (.int (nI (2 ^ S.1.length - 1))), some (.int (nI k))] [] N = ((¬ gcs LL h S k - gW S.1 (gcs LL h S) ((2 ^ S.1.length - 1) ^^^ 2 ^ k) = gW S.1 (gcs LL h S) (2 ^ S.1.length - 1) → ok d mX11_game 488 Q 488 0 0 55 [some (.ref 457), some (.int w), some (.int (nI (2 ^ S.1.length - 1))), some (.int (nI (k + 1)))] [] M') ∧ (¬ ¬ gcs LL h S k - gW S.1 (gcs LL h S) ((2 ^ S.1.length - 1) ^^^ 2 ^ k) = gW S.1 (gcs LL h S) (2 ^ S.1.length - 1) → Q (some (.int (nI k))) M'))) ∧ (gcl S.1 (2 ^ S.1.length - 1) k = false → ∀ d (Q : am_Q), 32 ≤ d → ok d mX11_game 488 Q 488 0 0 55 [some (.ref 457), some (.int w), some (.int (nI (2 ^ S.1.length - 1))), some (.int (nI k))] [] N = ok d mX11_game 488 Q 488 0 0 55 [some (.ref 457), some (.int w), some (.int (nI (2 ^ S.1.length - 1))), some (.int (nI (k + 1)))] [] N) := by
    intro k N hkl gN tN
    have hWN := gN.1
    have g36 := GmM_36 gN
    have ga := gN.2.2.2 k hkl
    have e0 : (nI S.1.length ≤ nI k) = False := by rw [nI_leE (by omega) (by omega)]; exact eq_false (by omega)
    have ck : (nI k).toNatClampNeg = k := nI_clamp (by omega)
    have i5 := fun (M : am_M) => in_475 (M := M) (k := k) (by omega)
    have i36 := fun (M : am_M) => in_465 (M := M) (k := 36) (by omega)
    have al := ab_lt (l := S.1) (n := S.1.length) (e := k)
    have z0 := nI_z0 (k := ab S.1 S.1.length k) (by omega)
    rw [ab_full hkl]
    constructor
    · intro c
      have ca := eq_true (of_decide_eq_true c)
      have cb : (2 ^ S.1.length - 1).testBit k = true := by rw [Nat.testBit_two_pow_sub_one]; exact decide_eq_true hkl
      obtain ⟨M2, e2, lb2, f2⟩ := m_costAt (n := 0) (b := 5) hWN gN.2.1 gN.2.2.1 ht hw hkl (by omega) (by omega)
      have eg : prc LL h (sf S.1 k) (pf S.1 k) (xf S.1 k) (nI 0) (nI 5) (nI S.2.2.2.1) = gcs LL h S k := rfl
      rw [eg] at e2
      have hW2 := f2.2 hWN
      have xl := x_lt cb
      have gt : gI M2 482 ((2 ^ S.1.length - 1) ^^^ 2 ^ k) = gW S.1 (gcs LL h S) ((2 ^ S.1.length - 1) ^^^ 2 ^ k) := by
        rw [f2.I (by unfold XC XC0 XG; omega)]; exact tN _ (by omega)
      have gt2 : gI M2 482 (2 ^ S.1.length - 1) = gW S.1 (gcs LL h S) (2 ^ S.1.length - 1) := by
        rw [f2.I (by unfold XC XC0 XG; omega)]; exact tN _ (by omega)
      have cx : (nI ((2 ^ S.1.length - 1) ^^^ 2 ^ k)).toNatClampNeg = (2 ^ S.1.length - 1) ^^^ 2 ^ k := nI_clamp (by omega)
      have cf : (nI (2 ^ S.1.length - 1)).toNatClampNeg = 2 ^ S.1.length - 1 := nI_clamp (by omega)
      have i8 := fun (M : am_M) => in_482 (M := M) (k := (2 ^ S.1.length - 1) ^^^ 2 ^ k) (by omega)
      have i9 := fun (M : am_M) => in_482 (M := M) (k := 2 ^ S.1.length - 1) (by omega)
      refine ⟨M2, lb2, f2, fun d Q hd => ?_⟩
      have e2' := fun (Q : am_Q) => e2 d Q hd
      rw [show nI 0 = 0 from rfl, show nI 5 = 5 from rfl] at e2'
      rw [sX11_game_55]
      simp (disch := (first | assumption | omega | decide)) only [sX11_game_0, sX11_game_1, sX11_game_2, sX11_game_5, sX11_game_6, sX11_game_9, sX11_game_12, sX11_game_13, sX11_game_14, sX11_game_15, sX11_game_16, sX11_game_19, sX11_game_22, sX11_game_25, sX11_game_26, sX11_game_27, sX11_game_30, sX11_game_31, sX11_game_32, sX11_game_35, sX11_game_37, sX11_game_38, sX11_game_39, sX11_game_40, sX11_game_41, sX11_game_42, sX11_game_43, sX11_game_46, sX11_game_47, sX11_game_50, sX11_game_51, sX11_game_52, sX11_game_53, sX11_game_54, sX11_game_56, sX11_game_57, sX11_game_60, sX11_game_62, sX11_game_63, sX11_game_66, sX11_game_67, sX11_game_70, sX11_game_71, sX11_game_72, sX11_game_75, sX11_game_76, sX11_game_77, sX11_game_78, sX11_game_79, sX11_game_82, sX11_game_83, sX11_game_86, sX11_game_87, sX11_game_88, sX11_game_89, sX11_game_90, sX11_game_91, sX11_game_92, sX11_game_93, sX11_game_94, sX11_game_95, sX11_game_96, sX11_game_99, sX11_game_100, sX11_game_101, sX11_game_104, sX11_game_105, sX11_game_106, sX11_game_109, sX11_game_112, sX11_game_113, kI_i, kL_l, kV_v, am_rv_s, am_kl_i, am_kl_r, am_kl_n, am_kl_l, true_and, and_true, and_self, true_or, or_true, implies_true, forall_const, not_true_eq_false, not_false_eq_true, false_implies, true_implies, if_true, if_false, Bool.true_eq_false, Bool.false_eq_true, ob_457, r_457_27, r_457_39, r_457_48, n36, i36, nI_clamp (show 36 < 2147483648 by omega), g36, e0, i5, ck, ga, z0, ca, e2', shl1 k (by omega), nI_drop cb, i8, i9, cx, cf, gt, gt2, nI_1]
    · intro c d Q hd
      have ca := of_decide_eq_false c
      rw [sX11_game_55]
      simp (disch := (first | assumption | omega | decide)) only [sX11_game_0, sX11_game_1, sX11_game_2, sX11_game_5, sX11_game_6, sX11_game_9, sX11_game_12, sX11_game_13, sX11_game_14, sX11_game_15, sX11_game_16, sX11_game_19, sX11_game_22, sX11_game_25, sX11_game_26, sX11_game_27, sX11_game_30, sX11_game_31, sX11_game_32, sX11_game_35, sX11_game_37, sX11_game_38, sX11_game_39, sX11_game_40, sX11_game_41, sX11_game_42, sX11_game_43, sX11_game_46, sX11_game_47, sX11_game_50, sX11_game_51, sX11_game_52, sX11_game_53, sX11_game_54, sX11_game_56, sX11_game_57, sX11_game_60, sX11_game_62, sX11_game_63, sX11_game_66, sX11_game_67, sX11_game_70, sX11_game_71, sX11_game_72, sX11_game_75, sX11_game_76, sX11_game_77, sX11_game_78, sX11_game_79, sX11_game_82, sX11_game_83, sX11_game_86, sX11_game_87, sX11_game_88, sX11_game_89, sX11_game_90, sX11_game_91, sX11_game_92, sX11_game_93, sX11_game_94, sX11_game_95, sX11_game_96, sX11_game_99, sX11_game_100, sX11_game_101, sX11_game_104, sX11_game_105, sX11_game_106, sX11_game_109, sX11_game_112, sX11_game_113, kI_i, kL_l, kV_v, am_rv_s, am_kl_i, am_kl_r, am_kl_n, am_kl_l, true_and, and_true, and_self, true_or, or_true, implies_true, forall_const, not_true_eq_false, not_false_eq_true, false_implies, true_implies, if_true, if_false, Bool.true_eq_false, Bool.false_eq_true, ob_457, r_457_27, r_457_39, n36, i36, nI_clamp (show 36 < 2147483648 by omega), g36, e0, i5, ck, ga, z0, ca, nI_1]
  intro f
  induction f with
  | zero =>
    intro k N hk gN tN
    rw [Nat.add_zero] at hk
    subst hk
    obtain ⟨M', lb, f', e⟩ := (one k N hj gN tN).1 cj
    refine ⟨M', fun d Q hd => ?_, lb, f'⟩
    rw [e d Q hd]
    have q := eq_true mj.symm
    simp only [q, not_true_eq_false, false_implies, not_false_eq_true, true_implies, true_and]
  | succ f ih =>
    intro k N hk gN tN
    have hkl : k < S.1.length := by omega
    cases c : gcl S.1 (2 ^ S.1.length - 1) k with
    | true =>
      obtain ⟨M1, lb, f1, e⟩ := (one k N hkl gN tN).1 c
      obtain ⟨M', e2, lb2, f2⟩ := ih (k + 1) M1 (by omega) (GmM_c f1 lb gN) (fun i hi => (f1.I (by unfold XC XC0 XG; omega)).trans (tN i hi))
      refine ⟨M', fun d Q hd => ?_, lb2, f1.tr f2⟩
      rw [e d Q hd]
      have q := eq_false (fj k (by omega) c)
      simp only [q, not_false_eq_true, true_implies, not_true_eq_false, false_implies, and_true]
      exact e2 d Q hd
    | false =>
      obtain ⟨M', e2, lb2, f2⟩ := ih (k + 1) N (by omega) gN tN
      refine ⟨M', fun d Q hd => ?_, lb2, f2⟩
      rw [(one k N hkl gN tN).2 c d Q hd]
      exact e2 d Q hd
theorem m_game {w : Int32} (hr : RS M ap lim S P) (hb : LbM M LL h) : ∃ M', (∀ d (Q : am_Q), 34 ≤ d → am_big d mX11_game [.ref 457, .int w] 488 M Q = Q (some (.int (gameA ap LL h S w))) M') ∧ LbM M' LL h ∧ Fw XMG M M' := by
  have f0 : Fw XMG M (sI M 457 0 0) := Fw.s (Or.inr (Or.inr ⟨rfl, rfl⟩))
  have hb0 : LbM (sI M 457 0 0) LL h := LbM_Fw (X := fun c j => c = 457 ∧ j = 0) (Fw.s ⟨rfl, rfl⟩) (fun c j hc => by omega) hb
  have hr0 := RS_th hr
  generalize hM0 : sI M 457 0 0 = M0 at *
  obtain ⟨hW, hS, hPa, hf, hm, hw, hlim, ht⟩ := id hr0
  have hap := hS.2.2.2.2.1.2.2
  have hl := hS.1
  have ol := opn_0 hap
  have e01 := in01 (w := w)
  have pl : (2 : Nat) ^ S.1.length ≤ 4096 := Nat.le_trans (Nat.pow_le_pow_right (by omega) hl) (by omega)
  have pp : 0 < (2 : Nat) ^ S.1.length := Nat.pow_pos (by omega)
  unfold gameA
  cases c1 : opn ap with
  | false =>
    refine ⟨M0, fun d Q hd => ?_, hb0, f0⟩
    obtain ⟨d', rfl⟩ : ∃ d', d = d' + 2 := ⟨d - 2, by omega⟩
    rw [if_neg (fun z => by cases z.1), eX11_game]
    simp (disch := (first | assumption | omega | decide)) only [sX11_game_0, sX11_game_1, sX11_game_2, sX11_game_5, sX11_game_6, sX11_game_9, sX11_game_12, sX11_game_13, sX11_game_14, sX11_game_15, sX11_game_16, sX11_game_19, sX11_game_22, sX11_game_25, sX11_game_26, sX11_game_27, sX11_game_30, sX11_game_31, sX11_game_32, sX11_game_35, sX11_game_37, sX11_game_38, sX11_game_39, sX11_game_40, sX11_game_41, sX11_game_42, sX11_game_43, sX11_game_46, sX11_game_47, sX11_game_50, sX11_game_51, sX11_game_52, sX11_game_53, sX11_game_54, sX11_game_56, sX11_game_57, sX11_game_60, sX11_game_62, sX11_game_63, sX11_game_66, sX11_game_67, sX11_game_70, sX11_game_71, sX11_game_72, sX11_game_75, sX11_game_76, sX11_game_77, sX11_game_78, sX11_game_79, sX11_game_82, sX11_game_83, sX11_game_86, sX11_game_87, sX11_game_88, sX11_game_89, sX11_game_90, sX11_game_91, sX11_game_92, sX11_game_93, sX11_game_94, sX11_game_95, sX11_game_96, sX11_game_99, sX11_game_100, sX11_game_101, sX11_game_104, sX11_game_105, sX11_game_106, sX11_game_109, sX11_game_112, sX11_game_113, kI_i, kL_l, kV_v, am_rv_s, am_kl_i, am_kl_r, am_kl_n, am_kl_l, true_and, and_true, and_self, true_or, or_true, implies_true, forall_const, not_true_eq_false, not_false_eq_true, false_implies, true_implies, if_true, if_false, Bool.true_eq_false, Bool.false_eq_true, ob_457, hM0, hf, ol, c1]
  | true =>
    by_cases c3 : w = 0 ∨ w = 1
    · rw [decide_eq_true c3] at e01
      obtain ⟨M1, e1, gm, t1, f1⟩ := m_laysGame hr0 hb0
      have hW1 := gm.1
      have g36 := GmM_36 gm
      have i36 := fun (M : am_M) => in_465 (M := M) (k := 36) (by omega)
      have i9 := fun (M : am_M) => in_482 (M := M) (k := 2 ^ S.1.length - 1) (by omega)
      have cf : (nI (2 ^ S.1.length - 1)).toNatClampNeg = 2 ^ S.1.length - 1 := nI_clamp (by omega)
      have gt2 := t1 (2 ^ S.1.length - 1) (by omega)
      have fM : Fw XMG M M1 := f0.tr (f1.mo (fun c j z => z.elim Or.inl (fun z => Or.inr (Or.inl z))))
      rw [if_pos ⟨rfl, c3⟩]
      rcases c3 with rfl | rfl
      · rw [if_pos rfl]
        refine ⟨M1, fun d Q hd => ?_, gm.2.1, fM⟩
        obtain ⟨d', rfl⟩ : ∃ d', d = d' + 2 := ⟨d - 2, by omega⟩
        have e1' := fun (Q : am_Q) => e1 (d' + 1) Q (by omega)
        rw [eX11_game]
        simp (disch := (first | assumption | omega | decide)) only [sX11_game_0, sX11_game_1, sX11_game_2, sX11_game_5, sX11_game_6, sX11_game_9, sX11_game_12, sX11_game_13, sX11_game_14, sX11_game_15, sX11_game_16, sX11_game_19, sX11_game_22, sX11_game_25, sX11_game_26, sX11_game_27, sX11_game_30, sX11_game_31, sX11_game_32, sX11_game_35, sX11_game_37, sX11_game_38, sX11_game_39, sX11_game_40, sX11_game_41, sX11_game_42, sX11_game_43, sX11_game_46, sX11_game_47, sX11_game_50, sX11_game_51, sX11_game_52, sX11_game_53, sX11_game_54, sX11_game_56, sX11_game_57, sX11_game_60, sX11_game_62, sX11_game_63, sX11_game_66, sX11_game_67, sX11_game_70, sX11_game_71, sX11_game_72, sX11_game_75, sX11_game_76, sX11_game_77, sX11_game_78, sX11_game_79, sX11_game_82, sX11_game_83, sX11_game_86, sX11_game_87, sX11_game_88, sX11_game_89, sX11_game_90, sX11_game_91, sX11_game_92, sX11_game_93, sX11_game_94, sX11_game_95, sX11_game_96, sX11_game_99, sX11_game_100, sX11_game_101, sX11_game_104, sX11_game_105, sX11_game_106, sX11_game_109, sX11_game_112, sX11_game_113, kI_i, kL_l, kV_v, am_rv_s, am_kl_i, am_kl_r, am_kl_n, am_kl_l, true_and, and_true, and_self, true_or, or_true, implies_true, forall_const, not_true_eq_false, not_false_eq_true, false_implies, true_implies, if_true, if_false, Bool.true_eq_false, Bool.false_eq_true, ob_457, hM0, hf, ol, c1, c64_0, c64_1, m_isIn, e01, bz_t, i01, e1', r_457_27, r_457_48, n36, i36, nI_clamp (show 36 < 2147483648 by omega), g36, shl1 S.1.length (by omega), nI_sub1 pp, i9, cf, gt2]
      · rw [if_neg (by decide)]
        by_cases z : S.1.length = 0
        · have hg : gbm S.1 (gcs LL h S) (2 ^ S.1.length - 1) = none := by unfold gbm; rw [z]; rfl
          refine ⟨M1, fun d Q hd => ?_, gm.2.1, fM⟩
          obtain ⟨d', rfl⟩ : ∃ d', d = d' + 2 := ⟨d - 2, by omega⟩
          have e1' := fun (Q : am_Q) => e1 (d' + 1) Q (by omega)
          have e0 : (nI S.1.length ≤ 0) = True := by rw [z]; exact eq_true (by decide)
          rw [hg, oi_n, eX11_game]
          simp (disch := (first | assumption | omega | decide)) only [sX11_game_0, sX11_game_1, sX11_game_2, sX11_game_5, sX11_game_6, sX11_game_9, sX11_game_12, sX11_game_13, sX11_game_14, sX11_game_15, sX11_game_16, sX11_game_19, sX11_game_22, sX11_game_25, sX11_game_26, sX11_game_27, sX11_game_30, sX11_game_31, sX11_game_32, sX11_game_35, sX11_game_37, sX11_game_38, sX11_game_39, sX11_game_40, sX11_game_41, sX11_game_42, sX11_game_43, sX11_game_46, sX11_game_47, sX11_game_50, sX11_game_51, sX11_game_52, sX11_game_53, sX11_game_54, sX11_game_56, sX11_game_57, sX11_game_60, sX11_game_62, sX11_game_63, sX11_game_66, sX11_game_67, sX11_game_70, sX11_game_71, sX11_game_72, sX11_game_75, sX11_game_76, sX11_game_77, sX11_game_78, sX11_game_79, sX11_game_82, sX11_game_83, sX11_game_86, sX11_game_87, sX11_game_88, sX11_game_89, sX11_game_90, sX11_game_91, sX11_game_92, sX11_game_93, sX11_game_94, sX11_game_95, sX11_game_96, sX11_game_99, sX11_game_100, sX11_game_101, sX11_game_104, sX11_game_105, sX11_game_106, sX11_game_109, sX11_game_112, sX11_game_113, kI_i, kL_l, kV_v, am_rv_s, am_kl_i, am_kl_r, am_kl_n, am_kl_l, true_and, and_true, and_self, true_or, or_true, implies_true, forall_const, not_true_eq_false, not_false_eq_true, false_implies, true_implies, if_true, if_false, Bool.true_eq_false, Bool.false_eq_true, ob_457, hM0, hf, ol, c1, c64_0, c64_1, m_isIn, e01, bz_t, i01, e1', r_457_27, r_457_48, n36, i36, nI_clamp (show 36 < 2147483648 by omega), g36, shl1 S.1.length (by omega), nI_sub1 pp]
          rw [sX11_game_55]
          simp (disch := (first | assumption | omega | decide)) only [sX11_game_0, sX11_game_1, sX11_game_2, sX11_game_5, sX11_game_6, sX11_game_9, sX11_game_12, sX11_game_13, sX11_game_14, sX11_game_15, sX11_game_16, sX11_game_19, sX11_game_22, sX11_game_25, sX11_game_26, sX11_game_27, sX11_game_30, sX11_game_31, sX11_game_32, sX11_game_35, sX11_game_37, sX11_game_38, sX11_game_39, sX11_game_40, sX11_game_41, sX11_game_42, sX11_game_43, sX11_game_46, sX11_game_47, sX11_game_50, sX11_game_51, sX11_game_52, sX11_game_53, sX11_game_54, sX11_game_56, sX11_game_57, sX11_game_60, sX11_game_62, sX11_game_63, sX11_game_66, sX11_game_67, sX11_game_70, sX11_game_71, sX11_game_72, sX11_game_75, sX11_game_76, sX11_game_77, sX11_game_78, sX11_game_79, sX11_game_82, sX11_game_83, sX11_game_86, sX11_game_87, sX11_game_88, sX11_game_89, sX11_game_90, sX11_game_91, sX11_game_92, sX11_game_93, sX11_game_94, sX11_game_95, sX11_game_96, sX11_game_99, sX11_game_100, sX11_game_101, sX11_game_104, sX11_game_105, sX11_game_106, sX11_game_109, sX11_game_112, sX11_game_113, kI_i, kL_l, kV_v, am_rv_s, am_kl_i, am_kl_r, am_kl_n, am_kl_l, true_and, and_true, and_self, true_or, or_true, implies_true, forall_const, not_true_eq_false, not_false_eq_true, false_implies, true_implies, if_true, if_false, Bool.true_eq_false, Bool.false_eq_true, ob_457, r_457_27, n36, i36, nI_clamp (show 36 < 2147483648 by omega), g36, e0]
        · have h1 : 1 < 2 ^ S.1.length := Nat.one_lt_two_pow z
          obtain ⟨j, hj, j1, j2, j3, j4⟩ := gbm_ok (gcs_bd (LL := LL) (h := h) hw) hl (show 2 ^ S.1.length - 1 < 2 ^ S.1.length by omega) (by omega)
          obtain ⟨M2, e2, lb2, f2⟩ := lm_first (w := 1) ht hw gm t1 j1 j2 j3 j4 j 0 M1 (by omega) gm t1
          refine ⟨M2, fun d Q hd => ?_, lb2, fM.tr (f2.mo (fun c j z => Or.inl (Or.inl z)))⟩
          obtain ⟨d', rfl⟩ : ∃ d', d = d' + 2 := ⟨d - 2, by omega⟩
          have e1' := fun (Q : am_Q) => e1 (d' + 1) Q (by omega)
          have e2' : ok (d' + 1) mX11_game 488 Q 488 0 0 55 [some (.ref 457), some (.int 1), some (.int (nI (2 ^ S.1.length - 1))), some (.int 0)] [] M1 = _ := e2 (d' + 1) Q (by omega)
          rw [hj, oi_s, eX11_game]
          simp (disch := (first | assumption | omega | decide)) only [sX11_game_0, sX11_game_1, sX11_game_2, sX11_game_5, sX11_game_6, sX11_game_9, sX11_game_12, sX11_game_13, sX11_game_14, sX11_game_15, sX11_game_16, sX11_game_19, sX11_game_22, sX11_game_25, sX11_game_26, sX11_game_27, sX11_game_30, sX11_game_31, sX11_game_32, sX11_game_35, sX11_game_37, sX11_game_38, sX11_game_39, sX11_game_40, sX11_game_41, sX11_game_42, sX11_game_43, sX11_game_46, sX11_game_47, sX11_game_50, sX11_game_51, sX11_game_52, sX11_game_53, sX11_game_54, sX11_game_56, sX11_game_57, sX11_game_60, sX11_game_62, sX11_game_63, sX11_game_66, sX11_game_67, sX11_game_70, sX11_game_71, sX11_game_72, sX11_game_75, sX11_game_76, sX11_game_77, sX11_game_78, sX11_game_79, sX11_game_82, sX11_game_83, sX11_game_86, sX11_game_87, sX11_game_88, sX11_game_89, sX11_game_90, sX11_game_91, sX11_game_92, sX11_game_93, sX11_game_94, sX11_game_95, sX11_game_96, sX11_game_99, sX11_game_100, sX11_game_101, sX11_game_104, sX11_game_105, sX11_game_106, sX11_game_109, sX11_game_112, sX11_game_113, kI_i, kL_l, kV_v, am_rv_s, am_kl_i, am_kl_r, am_kl_n, am_kl_l, true_and, and_true, and_self, true_or, or_true, implies_true, forall_const, not_true_eq_false, not_false_eq_true, false_implies, true_implies, if_true, if_false, Bool.true_eq_false, Bool.false_eq_true, ob_457, hM0, hf, ol, c1, c64_0, c64_1, m_isIn, e01, bz_t, i01, e1', r_457_27, r_457_48, n36, i36, nI_clamp (show 36 < 2147483648 by omega), g36, shl1 S.1.length (by omega), nI_sub1 pp, e2']
    · rw [decide_eq_false c3] at e01
      refine ⟨M0, fun d Q hd => ?_, hb0, f0⟩
      obtain ⟨d', rfl⟩ : ∃ d', d = d' + 2 := ⟨d - 2, by omega⟩
      rw [if_neg (fun z => c3 z.2), eX11_game]
      simp (disch := (first | assumption | omega | decide)) only [sX11_game_0, sX11_game_1, sX11_game_2, sX11_game_5, sX11_game_6, sX11_game_9, sX11_game_12, sX11_game_13, sX11_game_14, sX11_game_15, sX11_game_16, sX11_game_19, sX11_game_22, sX11_game_25, sX11_game_26, sX11_game_27, sX11_game_30, sX11_game_31, sX11_game_32, sX11_game_35, sX11_game_37, sX11_game_38, sX11_game_39, sX11_game_40, sX11_game_41, sX11_game_42, sX11_game_43, sX11_game_46, sX11_game_47, sX11_game_50, sX11_game_51, sX11_game_52, sX11_game_53, sX11_game_54, sX11_game_56, sX11_game_57, sX11_game_60, sX11_game_62, sX11_game_63, sX11_game_66, sX11_game_67, sX11_game_70, sX11_game_71, sX11_game_72, sX11_game_75, sX11_game_76, sX11_game_77, sX11_game_78, sX11_game_79, sX11_game_82, sX11_game_83, sX11_game_86, sX11_game_87, sX11_game_88, sX11_game_89, sX11_game_90, sX11_game_91, sX11_game_92, sX11_game_93, sX11_game_94, sX11_game_95, sX11_game_96, sX11_game_99, sX11_game_100, sX11_game_101, sX11_game_104, sX11_game_105, sX11_game_106, sX11_game_109, sX11_game_112, sX11_game_113, kI_i, kL_l, kV_v, am_rv_s, am_kl_i, am_kl_r, am_kl_n, am_kl_l, true_and, and_true, and_self, true_or, or_true, implies_true, forall_const, not_true_eq_false, not_false_eq_true, false_implies, true_implies, if_true, if_false, Bool.true_eq_false, Bool.false_eq_true, ob_457, hM0, hf, ol, c1, c64_0, c64_1, m_isIn, e01, bz_f]
end
