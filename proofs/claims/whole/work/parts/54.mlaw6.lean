/-- whether one of the clauses holds -/
def anyV (vs : List (Bool × Int32)) : Bool := vs.any (fun t => t.1)
theorem LVs_add {L : Int32 → Int32} : ∀ {cs : List Cl} {vs : List (Bool × Int32)} {c : Cl} {t : Bool × Int32}, LVs L cs vs → CLV L c t.1 t.2 → LVs L (cs ++ [c]) (vs ++ [t])
  | [], [], _, _, _, h => ⟨h, trivial⟩
  | [], _ :: _, _, _, h, _ => h.elim
  | _ :: _, [], _, _, h, _ => h.elim
  | _ :: _, _ :: _, _, _, h, h2 => ⟨h.1, LVs_add h.2 h2⟩
theorem fst_no : ∀ {vs : List (Bool × Int32)}, anyV vs = false → fstV vs = 0
  | [], _ => rfl
  | t :: r, h => by
    unfold anyV at h
    simp only [List.any_cons, Bool.or_eq_false_iff] at h
    unfold fstV
    rw [if_neg (by rw [h.1]; decide)]
    exact fst_no h.2
theorem fst_add : ∀ {vs : List (Bool × Int32)} {t : Bool} {v : Int32}, bz (anyV (vs ++ [(t, v)])) = hfN (bz (anyV vs)) t ∧ fstV (vs ++ [(t, v)]) = fdN (bz (anyV vs)) (fstV vs) t v
  | [], t, v => by cases t <;> exact ⟨rfl, rfl⟩
  | u :: r, t, v => by
    obtain ⟨h1, h2⟩ := fst_add (vs := r) (t := t) (v := v)
    obtain ⟨ut, uv⟩ := u
    cases ut with
    | true =>
      have e1 : anyV ((true, uv) :: r ++ [(t, v)]) = true := rfl
      have e2 : anyV ((true, uv) :: r) = true := rfl
      rw [e1, e2]
      have n1 : ¬ (bz true = 0 ∧ t = true) := fun z => absurd z.1 (by decide)
      unfold hfN fdN
      rw [if_neg n1, if_neg n1]
      exact ⟨rfl, rfl⟩
    | false =>
      have e1 : anyV ((false, uv) :: r ++ [(t, v)]) = anyV (r ++ [(t, v)]) := rfl
      have e2 : anyV ((false, uv) :: r) = anyV r := rfl
      rw [e1, e2]
      exact ⟨h1, h2⟩
def XG (a j : Nat) : Prop := a = 457 ∧ (j = 5 ∨ j = 8 ∨ j = 9 ∨ j = 10 ∨ j = 11 ∨ j = 12 ∨ j = 13 ∨ j = 14 ∨ j = 17)
section
variable {M : am_M} {L : Int32 → Int32} {b beg len : Nat} {T : Nat → Int32}
theorem Fw_mc {hf fd f dp : Int32} {p : Nat} : Fw XG M (mc M hf fd p f dp) := by
  unfold mc md
  refine Fw.tr (Fw.tr (Fw.tr (Fw.s ?_) (Fw.s ?_)) (Fw.s ?_)) (Fw_pm ?_ ?_) <;> (unfold XG; omega)
/-- what working a law off leaves -/
def lwE (M : am_M) (L : Int32 → Int32) (M' : am_M) (R : Bool × Nat × List Cl) : Prop := Fw XG M M' ∧ gI M' 457 11 = (if R.1 = true then -1 else nI R.2.1) ∧ (R.1 = true → ∃ vs, LVs L R.2.2 vs ∧ gI M' 457 14 = fstV vs)
theorem lm_gobad {hf fd dp : Int32} {p k : Nat} {d : Nat} {Q : am_Q} (hk : k ≤ 240) : ok d mX11_goThrough 488 Q 488 0 0 32 [some (.ref 457), some (.ref b), some (.int (nI beg)), some (.int (nI len))] [] (mc M hf fd p (nI k) dp) = Q none (mc M hf fd p (nI k) dp) := by
  rw [sX11_goThrough_32]
  simp (disch := (first | assumption | omega | decide)) only [sX11_goThrough_0, sX11_goThrough_1, sX11_goThrough_2, sX11_goThrough_3, sX11_goThrough_4, sX11_goThrough_7, sX11_goThrough_8, sX11_goThrough_10, sX11_goThrough_13, sX11_goThrough_14, sX11_goThrough_15, sX11_goThrough_18, sX11_goThrough_19, sX11_goThrough_20, sX11_goThrough_23, sX11_goThrough_24, sX11_goThrough_25, sX11_goThrough_28, sX11_goThrough_29, sX11_goThrough_33, sX11_goThrough_36, sX11_goThrough_37, sX11_goThrough_40, sX11_goThrough_41, sX11_goThrough_44, sX11_goThrough_46, sX11_goThrough_49, sX11_goThrough_50, sX11_goThrough_51, sX11_goThrough_54, sX11_goThrough_55, sX11_goThrough_56, sX11_goThrough_59, sX11_goThrough_60, sX11_goThrough_63, sX11_goThrough_66, sX11_goThrough_67, sX11_goThrough_70, sX11_goThrough_71, sX11_goThrough_74, sX11_goThrough_75, sX11_goThrough_78, sX11_goThrough_79, sX11_goThrough_82, sX11_goThrough_83, sX11_goThrough_86, sX11_goThrough_87, kI_i, kL_l, kV_v, am_rv_s, am_kl_i, am_kl_r, am_kl_n, am_kl_l, true_and, and_true, and_self, true_or, or_true, implies_true, forall_const, not_true_eq_false, not_false_eq_true, false_implies, true_implies, if_true, if_false, Bool.true_eq_false, Bool.false_eq_true, ob_457, gI_mc1, nI_m1]
theorem lm_go (hW : WR M) (h : PB M b beg T len) (hL : LMt M L) (h13 : gI M 457 13 = 121) : ∀ (j p : Nat) (cs : List Cl) (vs : List (Bool × Int32)), p ≤ len → len - p < 2 * j → LVs L cs vs → ∃ M', (∀ d (Q : am_Q), 29 ≤ d → am_big d mX11_clause [.ref 457] 488 (mc M (bz (anyV vs)) (fstV vs) p (-1) 0) (kV fun M1 => ok d mX11_goThrough 488 Q 488 0 0 32 [some (.ref 457), some (.ref b), some (.int (nI beg)), some (.int (nI len))] [] M1) = Q none M') ∧ lwE M L M' (lawP T len j p cs) := by
  have hlen := h.2.2.2.2.1
  intro j
  induction j with
  | zero => intro p cs vs _ hj; omega
  | succ j ih =>
    intro p cs vs hp hj hv
    obtain ⟨q, f, dp, hf', fd', e, r1, r2⟩ := m_clause (hf := bz (anyV vs)) (fd := fstV vs) hW h hL h13 hp
    have hq := cla_le (T := T) hp
    unfold lawP
    generalize cla T len p = r at r1 r2 hq
    obtain ⟨ok1, q1, c⟩ := r
    simp only at r1 r2 hq
    cases ok1 with
    | false =>
      have r2 := r2 rfl
      subst r2
      refine ⟨mc M hf' fd' q (nI q1) dp, fun d Q hd => ?_, Fw_mc, gI_mc1, fun z => by cases z⟩
      · rw [e d _ hd, kV_v]
        exact lm_gobad (by omega)
    | true =>
      obtain ⟨rfl, rfl, rfl, tb, v, hcl, rfl, rfl⟩ := r1 rfl
      obtain ⟨hq2, hq3⟩ := hq.2.2 rfl
      have hs := skp_le' (T := T) hq.1
      have hg := skp_ge (T := T) (len := len) (p := q)
      have hv2 := LVs_add (t := (tb, v)) hv hcl
      obtain ⟨a1, a2⟩ := fst_add (vs := vs) (t := tb) (v := v)
      rw [← a1, ← a2] at e
      have hB := PB_mc (hf := bz (anyV (vs ++ [(tb, v)]))) (fd := fstV (vs ++ [(tb, v)])) h
      have lk : ∀ d (Q : am_Q) p, p ≤ len → am_big (d + 1) mX11_look [.ref 457] 488 (mc M (bz (anyV (vs ++ [(tb, v)]))) (fstV (vs ++ [(tb, v)])) p (-1) 0) Q = Q (some (.int (sg T len (skp T len p)))) (mc M (bz (anyV (vs ++ [(tb, v)]))) (fstV (vs ++ [(tb, v)])) (skp T len p) (-1) 0) := fun d Q p hp => md_look hB hp
      simp only [if_true]
      by_cases c1 : sg T len (skp T len q) = -1
      · rw [if_pos c1]
        refine ⟨mc M (bz (anyV (vs ++ [(tb, v)]))) (fstV (vs ++ [(tb, v)])) (skp T len q) (-1) 0, fun d Q hd => ?_, Fw_mc, gI_mc1, fun _ => ⟨_, hv2, gI_mc14⟩⟩
        have n59 : ((-1 : Int32) = 59) = False := eq_false (by decide)
        rw [e d _ hd, kV_v, sX11_goThrough_32]
        obtain ⟨d', rfl⟩ : ∃ d', d = d' + 3 := ⟨d - 3, by omega⟩
        simp (disch := (first | assumption | omega | decide)) only [sX11_goThrough_0, sX11_goThrough_1, sX11_goThrough_2, sX11_goThrough_3, sX11_goThrough_4, sX11_goThrough_7, sX11_goThrough_8, sX11_goThrough_10, sX11_goThrough_13, sX11_goThrough_14, sX11_goThrough_15, sX11_goThrough_18, sX11_goThrough_19, sX11_goThrough_20, sX11_goThrough_23, sX11_goThrough_24, sX11_goThrough_25, sX11_goThrough_28, sX11_goThrough_29, sX11_goThrough_33, sX11_goThrough_36, sX11_goThrough_37, sX11_goThrough_40, sX11_goThrough_41, sX11_goThrough_44, sX11_goThrough_46, sX11_goThrough_49, sX11_goThrough_50, sX11_goThrough_51, sX11_goThrough_54, sX11_goThrough_55, sX11_goThrough_56, sX11_goThrough_59, sX11_goThrough_60, sX11_goThrough_63, sX11_goThrough_66, sX11_goThrough_67, sX11_goThrough_70, sX11_goThrough_71, sX11_goThrough_74, sX11_goThrough_75, sX11_goThrough_78, sX11_goThrough_79, sX11_goThrough_82, sX11_goThrough_83, sX11_goThrough_86, sX11_goThrough_87, kI_i, kL_l, kV_v, am_rv_s, am_kl_i, am_kl_r, am_kl_n, am_kl_l, true_and, and_true, and_self, true_or, or_true, implies_true, forall_const, not_true_eq_false, not_false_eq_true, false_implies, true_implies, if_true, if_false, Bool.true_eq_false, Bool.false_eq_true, ob_457, gI_mc1, lk, skp_idem, c1, n59]
      · rw [if_neg c1]
        by_cases c2 : sg T len (skp T len q) = 59
        · have hlt := sg_lt c2 (by decide)
          rw [if_pos c2]
          obtain ⟨M', e2, r⟩ := ih (skp T len q + 1) (cs ++ [c]) (vs ++ [(tb, v)]) (by omega) (by omega) hv2
          refine ⟨M', fun d Q hd => ?_, r⟩
          rw [← e2 d Q hd, e d _ hd, kV_v, sX11_goThrough_32]
          have at0 : ∀ p, gI (mc M (bz (anyV (vs ++ [(tb, v)]))) (fstV (vs ++ [(tb, v)])) p (-1) 0) 457 10 = nI p := fun p => gI_md0
          have at1 : ∀ p q, sI (mc M (bz (anyV (vs ++ [(tb, v)]))) (fstV (vs ++ [(tb, v)])) p (-1) 0) 457 10 (nI q) = mc M (bz (anyV (vs ++ [(tb, v)]))) (fstV (vs ++ [(tb, v)])) q (-1) 0 := fun p q => md_at
          obtain ⟨d', rfl⟩ : ∃ d', d = d' + 3 := ⟨d - 3, by omega⟩
          simp (disch := (first | assumption | omega | decide)) only [sX11_goThrough_0, sX11_goThrough_1, sX11_goThrough_2, sX11_goThrough_3, sX11_goThrough_4, sX11_goThrough_7, sX11_goThrough_8, sX11_goThrough_10, sX11_goThrough_13, sX11_goThrough_14, sX11_goThrough_15, sX11_goThrough_18, sX11_goThrough_19, sX11_goThrough_20, sX11_goThrough_23, sX11_goThrough_24, sX11_goThrough_25, sX11_goThrough_28, sX11_goThrough_29, sX11_goThrough_33, sX11_goThrough_36, sX11_goThrough_37, sX11_goThrough_40, sX11_goThrough_41, sX11_goThrough_44, sX11_goThrough_46, sX11_goThrough_49, sX11_goThrough_50, sX11_goThrough_51, sX11_goThrough_54, sX11_goThrough_55, sX11_goThrough_56, sX11_goThrough_59, sX11_goThrough_60, sX11_goThrough_63, sX11_goThrough_66, sX11_goThrough_67, sX11_goThrough_70, sX11_goThrough_71, sX11_goThrough_74, sX11_goThrough_75, sX11_goThrough_78, sX11_goThrough_79, sX11_goThrough_82, sX11_goThrough_83, sX11_goThrough_86, sX11_goThrough_87, kI_i, kL_l, kV_v, am_rv_s, am_kl_i, am_kl_r, am_kl_n, am_kl_l, true_and, and_true, and_self, true_or, or_true, implies_true, forall_const, not_true_eq_false, not_false_eq_true, false_implies, true_implies, if_true, if_false, Bool.true_eq_false, Bool.false_eq_true, ob_457, gI_mc1, lk, skp_idem, c2, at0, nI_1, at1]
        · rw [if_neg c2]
          refine ⟨mc M (bz (anyV (vs ++ [(tb, v)]))) (fstV (vs ++ [(tb, v)])) (skp T len q) (nI (skp T len q)) 0, fun d Q hd => ?_, Fw_mc, gI_mc1, fun z => by cases z⟩
          have fl0 : ∀ d (Q : am_Q) p, am_big (d + 1) mX11_fails [.ref 457] 488 (mc M (bz (anyV (vs ++ [(tb, v)]))) (fstV (vs ++ [(tb, v)])) p (-1) 0) Q = Q (some (.int 0)) (mc M (bz (anyV (vs ++ [(tb, v)]))) (fstV (vs ++ [(tb, v)])) p (nI p) 0) := fun d Q p => md_fails
          rw [e d _ hd, kV_v, sX11_goThrough_32]
          obtain ⟨d', rfl⟩ : ∃ d', d = d' + 3 := ⟨d - 3, by omega⟩
          simp (disch := (first | assumption | omega | decide)) only [sX11_goThrough_0, sX11_goThrough_1, sX11_goThrough_2, sX11_goThrough_3, sX11_goThrough_4, sX11_goThrough_7, sX11_goThrough_8, sX11_goThrough_10, sX11_goThrough_13, sX11_goThrough_14, sX11_goThrough_15, sX11_goThrough_18, sX11_goThrough_19, sX11_goThrough_20, sX11_goThrough_23, sX11_goThrough_24, sX11_goThrough_25, sX11_goThrough_28, sX11_goThrough_29, sX11_goThrough_33, sX11_goThrough_36, sX11_goThrough_37, sX11_goThrough_40, sX11_goThrough_41, sX11_goThrough_44, sX11_goThrough_46, sX11_goThrough_49, sX11_goThrough_50, sX11_goThrough_51, sX11_goThrough_54, sX11_goThrough_55, sX11_goThrough_56, sX11_goThrough_59, sX11_goThrough_60, sX11_goThrough_63, sX11_goThrough_66, sX11_goThrough_67, sX11_goThrough_70, sX11_goThrough_71, sX11_goThrough_74, sX11_goThrough_75, sX11_goThrough_78, sX11_goThrough_79, sX11_goThrough_82, sX11_goThrough_83, sX11_goThrough_86, sX11_goThrough_87, kI_i, kL_l, kV_v, am_rv_s, am_kl_i, am_kl_r, am_kl_n, am_kl_l, true_and, and_true, and_self, true_or, or_true, implies_true, forall_const, not_true_eq_false, not_false_eq_true, false_implies, true_implies, if_true, if_false, Bool.true_eq_false, Bool.false_eq_true, ob_457, gI_mc1, lk, skp_idem, c1, c2, fl0]
/-- a law worked off: b from beg on, len bytes -/
theorem m_goThrough {M0 : am_M} (hM : M0 = sI (sI (sR M 457 5 (some b)) 457 8 (nI beg)) 457 9 (nI len)) (hW : WR M) (h : PB M0 b beg T len) (hL : LMt M L) : ∃ M', (∀ d (Q : am_Q), 30 ≤ d → am_big d mX11_goThrough [.ref 457, .ref b, .int (nI beg), .int (nI len)] 488 M Q = Q none M') ∧ lwE M L M' (lawP T len 240 0 []) := by
  have hlen := h.2.2.2.2.1
  have f0 : Fw XG M M0 := by
    rw [hM]
    exact ((Fw.r (by unfold XG; omega) rfl).tr (Fw.s (by unfold XG; omega))).tr (Fw.s (by unfold XG; omega))
  have f1 : Fw XG M0 (sI M0 457 13 121) := Fw.s (by unfold XG; omega)
  have w1 := (f0.tr f1).2 hW
  have hB : PB (sI M0 457 13 121) b beg T len := PB_of h rfl (gI_j (by omega)) (gI_j (by omega)) (fun k => gI_o (by rcases h.b458 with h | h <;> omega))
  have hL1 : LMt (sI M0 457 13 121) L := fun x j a1 a0 a2 => by rw [(f0.tr f1).I (by unfold XG; omega)]; exact hL x j a1 a0 a2
  obtain ⟨M', e, r1, r2, r3⟩ := lm_go w1 hB hL1 gI_e 240 0 [] [] (by omega) (by omega) trivial
  refine ⟨M', fun d Q hd => ?_, (f0.tr f1).tr r1, r2, r3⟩
  obtain ⟨d', rfl⟩ : ∃ d', d = d' + 1 := ⟨d - 1, by omega⟩
  obtain ⟨d2, rfl⟩ : ∃ d2, d' = d2 + 1 := ⟨d' - 1, by omega⟩
  rw [eX11_goThrough, ← e (d2 + 1) Q (by omega)]
  have o0 : ((0 : Int32) = 0 ∨ (0 : Int32) = 1) = True := by simp
  have hm : sI (sI (sI (sI (pm M0 0 (-1)) 457 13 121) 457 12 0) 457 17 0) 457 14 0 = mc (sI M0 457 13 121) (bz (anyV [])) (fstV []) 0 (-1) 0 := by
    show _ = pm (sI (sI (sI (sI M0 457 13 121) 457 17 0) 457 14 0) 457 12 0) 0 (-1)
    unfold pm
    refine M_ext (fun a k => ?_) (fun _ _ => rfl) (fun _ _ => rfl)
    simp only [gI_sI]
    by_cases ha : a = 457
    · subst ha
      by_cases k1 : k = 10
      · simp [k1]
      · by_cases k2 : k = 11
        · simp [k2]
        · by_cases k3 : k = 12
          · simp [k3]
          · by_cases k4 : k = 13
            · simp [k4]
            · by_cases k5 : k = 14
              · simp [k5]
              · by_cases k6 : k = 17
                · simp [k6]
                · simp [k1, k2, k3, k4, k5, k6]
    · simp [ha]
  simp (disch := (first | assumption | omega | decide)) only [sX11_goThrough_0, sX11_goThrough_1, sX11_goThrough_2, sX11_goThrough_3, sX11_goThrough_4, sX11_goThrough_7, sX11_goThrough_8, sX11_goThrough_10, sX11_goThrough_13, sX11_goThrough_14, sX11_goThrough_15, sX11_goThrough_18, sX11_goThrough_19, sX11_goThrough_20, sX11_goThrough_23, sX11_goThrough_24, sX11_goThrough_25, sX11_goThrough_28, sX11_goThrough_29, sX11_goThrough_33, sX11_goThrough_36, sX11_goThrough_37, sX11_goThrough_40, sX11_goThrough_41, sX11_goThrough_44, sX11_goThrough_46, sX11_goThrough_49, sX11_goThrough_50, sX11_goThrough_51, sX11_goThrough_54, sX11_goThrough_55, sX11_goThrough_56, sX11_goThrough_59, sX11_goThrough_60, sX11_goThrough_63, sX11_goThrough_66, sX11_goThrough_67, sX11_goThrough_70, sX11_goThrough_71, sX11_goThrough_74, sX11_goThrough_75, sX11_goThrough_78, sX11_goThrough_79, sX11_goThrough_82, sX11_goThrough_83, sX11_goThrough_86, sX11_goThrough_87, kI_i, kL_l, kV_v, am_rv_s, am_kl_i, am_kl_r, am_kl_n, am_kl_l, true_and, and_true, and_self, true_or, or_true, implies_true, forall_const, not_true_eq_false, not_false_eq_true, false_implies, true_implies, if_true, if_false, Bool.true_eq_false, Bool.false_eq_true, ob_457, m_starts, ← hM, o0, hm]
end
