section
variable {M N : am_M} {a b ap lim k j n : Nat} {S : Sg} {X : Nat → Nat → Prop} {d : Nat} {Q : am_Q}
def xdd (so x : Int32) : Int32 := if so = 0 ∨ so = 2 ∨ so = 3 then x else 0
theorem xdd_xdd (so x : Int32) : xdd so (xdd so x) = xdd so x := by unfold xdd; split <;> rfl
theorem LH_addx {l : List Dd} {so pa x : Int32} (h : LH M a l) (hn : l.length < 16) : LH (addM M a l.length so pa x) a (l ++ [(so, pa, xdd so x)]) := by
  have e : addM M a l.length so pa x = addM M a l.length so pa (xdd so x) := by
    unfold addM
    rw [show (if so = 0 ∨ so = 2 ∨ so = 3 then xdd so x else 0) = xdd so (xdd so x) from rfl, xdd_xdd]
    rfl
  rw [e]
  exact LH_add h hn (xdd_xdd so x)
theorem gI_addo {c so pa x} (h : c < a ∨ a + 3 < c) : gI (addM M a n so pa x) c j = gI M c j := by
  unfold addM
  rw [gI_o (by omega), gI_o (by omega), gI_o (by omega), gI_o (by omega)]
theorem StN_add {so pa x : Int32} (h : StN M a ap lim S n) (hl : S.1.length < 16) : StN (addM M (a + 1) S.1.length so pa x) a ap lim (S.1 ++ [(so, pa, xdd so x)], S.2) n := by
  obtain ⟨h1, h2, h3, h4, h5, h6, ⟨h7, h9⟩, h10, h11⟩ := h
  refine ⟨h1, LH_addx h2 hl, by rw [gI_addo (by omega)]; exact h3, by rw [gI_addo (by omega)]; exact h4, by rw [gI_addo (by omega)]; exact h5, fun i hi => ?_, ⟨by rw [gI_addo (by omega)]; exact h7, h9.1, fun i hi => ?_⟩, h10, h11⟩
  · rw [gI_addo (by omega), gI_addo (by omega)]; exact h6 i hi
  · rw [gI_addo (by omega), gI_addo (by omega)]; exact h9.2 i hi
def doS (S : Sg) (so pa x : Int32) : Sg := (S.1 ++ [(so, pa, xdd so x)], S.2.1, S.2.2.1, S.2.2.2.1, lgA S.2.2.2.2 so (nI (S.1.length + 1)))
theorem Fw_add {so pa x : Int32} : Fw (fun c _ => a ≤ c ∧ c ≤ a + 3) M (addM M a n so pa x) := by
  unfold addM
  exact (((Fw.s (by omega)).tr (Fw.s (by omega))).tr (Fw.s (by omega))).tr (Fw.s (by omega))
theorem c_doDeed {so pa x : Int32} (h : StN M a ap lim S n) (hl : S.1.length < 16) : ∃ M', (∀ d (Q : am_Q), am_big (d + 3) mX8_doDeed [.ref a, .int so, .int pa, .int x] 488 M Q = Q none M') ∧ (n < 9999 → StN M' a ap lim (doS S so pa x) (n + 1)) ∧ Fw (fun c _ => a ≤ c ∧ c ≤ a + 8) M M' := by
  have h1 := StN_add (so := so) (pa := pa) (x := x) h hl
  obtain ⟨M', e, r, f⟩ := c_note (x := so) h1
  obtain ⟨⟨a1, a2, a3, a4, a5, a6, a7, p1, p2, p3, p4, p5⟩, h2, h3, -⟩ := h
  have oa := ob (a := a) (c := 8) (by omega) a2
  have oa1 := ob (a := a + 1) (c := 0) (by omega) a3.2.1
  refine ⟨M', fun d Q => ?_, fun hn => ?_, (Fw_add.mo (fun c j z => by omega)).tr (f.mo (fun c j z => by omega))⟩
  · rw [eX8_doDeed]
    simp (disch := (first | assumption | omega | decide)) only [sX8_doDeed_0, sX8_doDeed_1, sX8_doDeed_4, sX8_doDeed_5, sX8_doDeed_6, sX8_doDeed_7, sX8_doDeed_10, sX8_doDeed_11, sX8_doDeed_12, sX8_doDeed_15, kI_i, kL_l, kV_v, am_rv_s, am_kl_i, am_kl_r, am_kl_n, am_kl_l, true_and, and_true, and_self, true_or, or_true, implies_true, forall_const, not_true_eq_false, not_false_eq_true, false_implies, true_implies, if_true, if_false, Bool.true_eq_false, Bool.false_eq_true, oa, oa1, p1, c_add h2.1 hl, e]
  · have := r hn
    have e1 : (S.1 ++ [(so, pa, xdd so x)]).length = S.1.length + 1 := by simp
    unfold doS
    rw [← e1]
    exact this
theorem LH_drop {l : List Dd} {e : Nat} (h : LH M a l) (he : e < l.length) : LH (sI (drpM M a e (l.length - 1 - e)) a 3 (nI (l.length - 1))) a (l.eraseIdx e) := by
  obtain ⟨⟨h1, h2, h3⟩, h4⟩ := h
  have e1 : (l.eraseIdx e).length = l.length - 1 := by rw [List.length_eraseIdx, if_pos he]
  refine ⟨⟨h1, by rw [gI_e, e1], by omega⟩, fun k t hk => ?_⟩
  have hkl := (List.getElem?_eq_some_iff.mp hk).1
  rw [e1] at hkl
  rw [gI_o (by omega), gI_o (by omega), gI_o (by omega), gI_drp, gI_drp, gI_drp]
  rw [List.getElem?_eraseIdx] at hk
  by_cases hke : k < e
  · rw [if_pos hke] at hk
    rw [if_neg (by omega), if_neg (by omega), if_neg (by omega)]
    exact h4 k t hk
  · rw [if_neg hke] at hk
    rw [if_pos (by omega), if_pos (by omega), if_pos (by omega)]
    exact h4 (k + 1) t hk
/-- what those in the room know behind a taking back -/
def knT (kn : Nat → Int32) (rb : Nat) (so : Int32) (i : Nat) : Int32 := kn i ||| (bz (rb.testBit i) <<< (so &&& 31))
def srt0 (l : List Dd) (e : Nat) : Int32 := (l.getD e (0, 0, 0)).1
def tkS (S : Sg) (e : Nat) : Sg := (S.1.eraseIdx e, knT S.2.1 S.2.2.1 (srt0 S.1 e), S.2.2.1, S.2.2.2.1, lgA S.2.2.2.2 (5 + srt0 S.1 e) (nI (S.1.length - 1)))
theorem LH_get {l : List Dd} {e : Nat} (h : LH M a l) (he : e < l.length) : gI M (a + 1) e = srt0 l e ∧ gI M (a + 2) e = (l.getD e (0, 0, 0)).2.1 ∧ gI M (a + 3) e = (l.getD e (0, 0, 0)).2.2 := by
  have := h.2 e l[e] (List.getElem?_eq_getElem he)
  unfold srt0
  rw [List.getD_eq_getElem?_getD, List.getElem?_eq_getElem he]
  exact this
theorem c_takeBack {e : Nat} (h : StN M a ap lim S n) (he : e < S.1.length) : ∃ M', (∀ d (Q : am_Q), am_big (d + 3) mX8_takeBack [.ref a, .int (nI e)] 488 M Q = Q none M') ∧ (n < 9999 → StN M' a ap lim (tkS S e) (n + 1)) ∧ Fw (fun c _ => a ≤ c ∧ c ≤ a + 8) M M' := by
  obtain ⟨⟨a1, a2, a3, a4, a5, a6, a7, p1, p2, p3, p4, p5⟩, h2, h3, h4, h5, h6, ⟨h7, h9⟩, h10, h11⟩ := h
  have hl16 := h2.1.2.2
  have oa := ob (a := a) (c := 8) (by omega) a2
  have oa1 := ob (a := a + 1) (c := 0) (by omega) a3.2.1
  have hg := LH_get h2 he
  have hh : decide (0 ≤ nI e ∧ nI e < gI M (a + 1) 3) = true := decide_eq_true ⟨nI_pos' (by omega), by rw [h2.1.2.1]; exact nI_lt he (by omega)⟩
  have ie := fun M => in1 (M := M) (k := e) (by omega : a + 1 + 1 < 488) a3.2.2.1 (by omega) (by omega)
  generalize hM1 : sI (drpM M (a + 1) e (S.1.length - 1 - e)) (a + 1) 3 (nI (S.1.length - 1)) = M1
  have hd : ∀ d (Q : am_Q), am_big (d + 2) mX0_drop [.ref (a + 1), .int (nI e)] 488 M Q = Q none M1 := fun d Q => by rw [c_drop h2.1 he, hM1]
  have hlh : LH M1 (a + 1) (S.1.eraseIdx e) := by rw [← hM1]; exact LH_drop h2 he
  have go : ∀ c j, c < a + 1 ∨ a + 4 < c → gI M1 c j = gI M c j := fun c j hc => by rw [← hM1, gI_o (by omega), gI_drp, if_neg (by omega)]
  have gr : ∀ c j, gR M1 c j = gR M c j := fun c j => by rw [← hM1]; rfl
  have f1 : Fw (fun c _ => a ≤ c ∧ c ≤ a + 8) M M1 := by
    refine ⟨fun c j hc => ⟨go c j (by omega), by rw [← hM1]; rfl, gr c j⟩, fun hW c j v hv => (gr c j).trans (hW c j v hv)⟩
  generalize hso : srt0 S.1 e = so at hg
  have gso : gI M (a + 1 + 1) e = so := hg.1
  have f2 : Fw (fun c _ => a ≤ c ∧ c ≤ a + 8) M1 (fl M1 (a + 5) ap (knT S.2.1 S.2.2.1 so)) := Fw.f (fun k _ => by omega)
  have hN2 : StN (fl M1 (a + 5) ap (knT S.2.1 S.2.2.1 so)) a ap lim (S.1.eraseIdx e, knT S.2.1 S.2.2.1 so, S.2.2.1, S.2.2.2.1, S.2.2.2.2) n := by
    refine ⟨STs_of (M := M) (fun c j x y => by rw [gR_fl, gr]) ⟨a1, a2, a3, a4, a5, a6, a7, p1, p2, p3, p4, p5⟩, LH_of (M := M1) (fun c j x y => gI_fn (by omega)) (fun _ _ _ _ => rfl) hlh, ?_, ?_, ?_, fun i hi => ⟨gI_fl hi, ?_⟩, ⟨?_, h9.1, fun i hi => ?_⟩, h10, h11⟩
    · rw [gI_fn (by omega), go _ _ (by omega)]; exact h3
    · rw [gI_fn (by omega), go _ _ (by omega)]; exact h4
    · rw [gI_fn (by omega), go _ _ (by omega)]; exact h5
    · rw [gI_fn (by omega), go _ _ (by omega)]; exact (h6 i hi).2
    · rw [gI_fn (by omega), go _ _ (by omega)]; exact h7
    · rw [gI_fn (by omega), go _ _ (by omega), gI_fn (by omega), go _ _ (by omega)]; exact h9.2 i hi
  obtain ⟨M', en, rn, fn⟩ := c_note (x := 5 + so) hN2
  refine ⟨M', fun d Q => ?_, fun hn => ?_, (f1.tr f2).tr (fn.mo (fun c j z => by omega))⟩
  · have lp : ok (d + 2) mX8_takeBack 488 Q 488 0 0 32 [some (.ref a), some (.int (nI e)), some (.int so), some (.int (nI 0))] [] M1 = ok (d + 2) mX8_takeBack 488 Q 488 0 0 32 [some (.ref a), some (.int (nI e)), some (.int so), some (.int (nI ap))] [] (fl M1 (a + 5) ap (knT S.2.1 S.2.2.1 so)) := by
      have l0 := loop0 (P := fun k => ok (d + 2) mX8_takeBack 488 Q 488 0 0 32 [some (.ref a), some (.int (nI e)), some (.int so), some (.int (nI k))] [] (fl M1 (a + 5) k (knT S.2.1 S.2.2.1 so))) (n := ap) (fun k hk => by
        have e0 : (nI ap ≤ nI k) = False := by rw [nI_leE (by omega) (by omega)]; exact eq_false (by omega)
        have i5 := fun M => in1 (M := M) (k := k) (by omega : a + 5 < 488) a4 (by omega) (by omega)
        have w5 := iw (k := k) (by omega : a + 5 < 488) a4 (by omega) (by omega)
        have i6 := fun M => in1 (M := M) (k := k) (by omega : a + 6 < 488) a5 (by omega) (by omega)
        have g3 : gI (fl M1 (a + 5) k (knT S.2.1 S.2.2.1 so)) a 3 = nI ap := by rw [gI_fn (by omega), go _ _ (by omega)]; exact h3
        have g5 : gI (fl M1 (a + 5) k (knT S.2.1 S.2.2.1 so)) (a + 5) k = S.2.1 k := by rw [gI_fl_ge (by omega), go _ _ (by omega)]; exact (h6 k hk).1
        have g6 : gI (fl M1 (a + 5) k (knT S.2.1 S.2.2.1 so)) (a + 6) k = bz (S.2.2.1.testBit k) := by rw [gI_fn (by omega), go _ _ (by omega)]; exact (h6 k hk).2
        have q2 : gR M1 a 1 = some (a + 5) := by rw [gr]; exact p2
        have q3 : gR M1 a 2 = some (a + 6) := by rw [gr]; exact p3
        have sw : sI (fl M1 (a + 5) k (knT S.2.1 S.2.2.1 so)) (a + 5) k (S.2.1 k ||| (bz (S.2.2.1.testBit k) <<< (so &&& 31))) = fl M1 (a + 5) (k + 1) (knT S.2.1 S.2.2.1 so) := M_ext (fun c i => by
          rw [gI_sI, gI_fl', gI_fl']
          by_cases z : c = a + 5 ∧ i = k
          · rw [if_pos z, if_pos ⟨z.1, by omega⟩, z.2]; rfl
          · rw [if_neg z]
            by_cases z2 : c = a + 5 ∧ i < k
            · rw [if_pos z2, if_pos ⟨z2.1, by omega⟩]
            · rw [if_neg z2, if_neg (by omega)]) (fun _ _ => rfl) (fun _ _ => rfl)
        show ok (d + 2) mX8_takeBack 488 Q 488 0 0 32 _ [] _ = ok (d + 2) mX8_takeBack 488 Q 488 0 0 32 _ [] _
        rw [sX8_takeBack_32]
        simp (disch := (first | assumption | omega | decide)) only [sX8_takeBack_0, sX8_takeBack_1, sX8_takeBack_4, sX8_takeBack_5, sX8_takeBack_8, sX8_takeBack_11, sX8_takeBack_12, sX8_takeBack_13, sX8_takeBack_16, sX8_takeBack_19, sX8_takeBack_20, sX8_takeBack_21, sX8_takeBack_22, sX8_takeBack_23, sX8_takeBack_26, sX8_takeBack_27, sX8_takeBack_30, sX8_takeBack_31, sX8_takeBack_33, sX8_takeBack_34, sX8_takeBack_37, sX8_takeBack_40, sX8_takeBack_41, sX8_takeBack_44, sX8_takeBack_45, sX8_takeBack_46, sX8_takeBack_47, sX8_takeBack_48, sX8_takeBack_51, sX8_takeBack_52, sX8_takeBack_53, sX8_takeBack_54, sX8_takeBack_55, sX8_takeBack_56, sX8_takeBack_57, sX8_takeBack_60, sX8_takeBack_63, sX8_takeBack_64, sX8_takeBack_65, sX8_takeBack_66, sX8_takeBack_67, sX8_takeBack_70, kI_i, kL_l, kV_v, am_rv_s, am_kl_i, am_kl_r, am_kl_n, am_kl_l, true_and, and_true, and_self, true_or, or_true, implies_true, forall_const, not_true_eq_false, not_false_eq_true, false_implies, true_implies, if_true, if_false, Bool.true_eq_false, Bool.false_eq_true, oa, g3, e0, gR_fl, q2, q3, i5, w5, i6, nI_clamp, g5, g6, sw, nI_1])
      have l1 : fl M1 (a + 5) 0 (knT S.2.1 S.2.2.1 so) = M1 := fl_id (fun k hk => by omega)
      simp only [l1] at l0
      exact l0
    rw [eX8_takeBack]
    have q1 : gR M1 a 0 = some (a + 1) := by rw [gr]; exact p1
    simp (disch := (first | assumption | omega | decide)) only [sX8_takeBack_0, sX8_takeBack_1, sX8_takeBack_4, sX8_takeBack_5, sX8_takeBack_8, sX8_takeBack_11, sX8_takeBack_12, sX8_takeBack_13, sX8_takeBack_16, sX8_takeBack_19, sX8_takeBack_20, sX8_takeBack_21, sX8_takeBack_22, sX8_takeBack_23, sX8_takeBack_26, sX8_takeBack_27, sX8_takeBack_30, sX8_takeBack_31, sX8_takeBack_33, sX8_takeBack_34, sX8_takeBack_37, sX8_takeBack_40, sX8_takeBack_41, sX8_takeBack_44, sX8_takeBack_45, sX8_takeBack_46, sX8_takeBack_47, sX8_takeBack_48, sX8_takeBack_51, sX8_takeBack_52, sX8_takeBack_53, sX8_takeBack_54, sX8_takeBack_55, sX8_takeBack_56, sX8_takeBack_57, sX8_takeBack_60, sX8_takeBack_63, sX8_takeBack_64, sX8_takeBack_65, sX8_takeBack_66, sX8_takeBack_67, sX8_takeBack_70, kI_i, kL_l, kV_v, am_rv_s, am_kl_i, am_kl_r, am_kl_n, am_kl_l, true_and, and_true, and_self, true_or, or_true, implies_true, forall_const, not_true_eq_false, not_false_eq_true, false_implies, true_implies, if_true, if_false, Bool.true_eq_false, Bool.false_eq_true, oa, oa1, p1, c_has a3, hh, bz_t, i01, a3.2.2.2.2.2.1, ie, nI_clamp, gso, hd]
    refine (lp).trans ?_
    have g3 : gI (fl M1 (a + 5) ap (knT S.2.1 S.2.2.1 so)) a 3 = nI ap := by rw [gI_fn (by omega), go _ _ (by omega)]; exact h3
    rw [sX8_takeBack_32]
    simp (disch := (first | assumption | omega | decide)) only [sX8_takeBack_0, sX8_takeBack_1, sX8_takeBack_4, sX8_takeBack_5, sX8_takeBack_8, sX8_takeBack_11, sX8_takeBack_12, sX8_takeBack_13, sX8_takeBack_16, sX8_takeBack_19, sX8_takeBack_20, sX8_takeBack_21, sX8_takeBack_22, sX8_takeBack_23, sX8_takeBack_26, sX8_takeBack_27, sX8_takeBack_30, sX8_takeBack_31, sX8_takeBack_33, sX8_takeBack_34, sX8_takeBack_37, sX8_takeBack_40, sX8_takeBack_41, sX8_takeBack_44, sX8_takeBack_45, sX8_takeBack_46, sX8_takeBack_47, sX8_takeBack_48, sX8_takeBack_51, sX8_takeBack_52, sX8_takeBack_53, sX8_takeBack_54, sX8_takeBack_55, sX8_takeBack_56, sX8_takeBack_57, sX8_takeBack_60, sX8_takeBack_63, sX8_takeBack_64, sX8_takeBack_65, sX8_takeBack_66, sX8_takeBack_67, sX8_takeBack_70, kI_i, kL_l, kV_v, am_rv_s, am_kl_i, am_kl_r, am_kl_n, am_kl_l, true_and, and_true, and_self, true_or, or_true, implies_true, forall_const, not_true_eq_false, not_false_eq_true, false_implies, true_implies, if_true, if_false, Bool.true_eq_false, Bool.false_eq_true, oa, g3, Int32.le_refl, en]
  · have := rn hn
    have e1 : (S.1.eraseIdx e).length = S.1.length - 1 := by rw [List.length_eraseIdx, if_pos he]
    unfold tkS
    rw [hso, ← e1]
    exact this
/-- the states ahead of the latest acts, the oldest first -/
def PaC (M : am_M) (ap lim : Nat) (P : List Sg) : Prop := ∃ old, old < 40 ∧ gI M 30 1 = nI old ∧ gI M 30 2 = nI P.length ∧ P.length ≤ 40 ∧ ∀ i (h : i < P.length), StC M (32 + 9 * ((old + i) % 40)) ap lim P[i] ∧ P[i].1.length ≤ 16
def paA (P : List Sg) (S : Sg) : List Sg := (if P.length = 40 then P.drop 1 else P) ++ [S]
theorem StC_sz (h : StC M a ap lim S) : S.1.length ≤ 16 := h.2.1.1.2.2
def XP2 (c j : Nat) : Prop := (c = 30 ∧ (j = 1 ∨ j = 2)) ∨ (32 ≤ c ∧ c ≤ 391)
theorem c_save {P : List Sg} (hW : WR M) (hP : PaC M ap lim P) (h : StC M 3 ap lim S) : ∃ M', (∀ d (Q : am_Q), am_big (d + 3) mX6_save [.ref 30, .ref 3] 488 M Q = Q none M') ∧ PaC M' ap lim (paA P S) ∧ StC M' 3 ap lim S ∧ Fw XP2 M M' := by
  obtain ⟨old, ho, g1, g2, hl, hs⟩ := hP
  have n40 : ((40 : Int32) = 0) = False := eq_false (by decide)
  have fX : ∀ N k, k < 40 → Fw (fun c _ => 32 + 9 * k ≤ c ∧ c ≤ 32 + 9 * k + 8) M N → Fw XP2 M N := fun N k hk hf => hf.mo (fun c j z => by unfold XP2; omega)
  -- the state that is written, at place k of the ring, from the memory M1
  have key : ∀ (M1 : am_M) (P1 : List Sg) (o1 : Nat), o1 < 40 → P1.length < 40 → WR M1 → gI M1 30 1 = nI o1 → gI M1 30 2 = nI P1.length → (∀ i (h : i < P1.length), StC M1 (32 + 9 * ((o1 + i) % 40)) ap lim P1[i]) → StC M1 3 ap lim S → ∃ M', (∀ d (Q : am_Q), ok (d + 2) mX6_save 488 Q 488 0 0 32 [some (.ref 30), some (.ref 3)] [] M1 = Q none M') ∧ PaC M' ap lim (P1 ++ [S]) ∧ StC M' 3 ap lim S ∧ Fw XP2 M1 M' := by
    intro M1 P1 o1 ho1 hl1 hW1 k1 k2 ks k3
    have hm : (o1 + P1.length) % 40 < 40 := Nat.mod_lt _ (by omega)
    have e40 : nI (o1 + P1.length) - nI (o1 + P1.length) / 40 * 40 = nI ((o1 + P1.length) % 40) := by rw [show (40 : Int32) = nI 40 from rfl]; exact pk_rem (by omega) (by omega) (by omega)
    obtain ⟨M2, e2, s2, f2⟩ := c_copyState (STs_i hW1 hm) k3 (by omega) (StC_sz k3)
    have o2 := ob (a := 32 + 9 * ((o1 + P1.length) % 40)) (c := 8) (by omega) (STs_i hW1 hm).2.1
    have g31 : gI M2 30 2 = nI P1.length := by rw [f2.I (by omega)]; exact k2
    have g32 : gI M2 30 1 = nI o1 := by rw [f2.I (by omega)]; exact k1
    have iz : (am_iw 488 31 5 (nI ((o1 + P1.length) % 40)) ∨ am_iw 488 31 6 (nI ((o1 + P1.length) % 40)) ∨ am_iw 488 31 7 (nI ((o1 + P1.length) % 40))) = True := by rw [iw_31 hm]; simp
    refine ⟨sI M2 30 2 (nI (P1.length + 1)), fun d Q => ?_, ⟨o1, ho1, ?_, ?_, ?_, fun i hi => ?_⟩, ?_, ?_⟩
    · simp (disch := (first | assumption | omega | decide)) only [sX6_save_0, sX6_save_1, sX6_save_4, sX6_save_6, sX6_save_9, sX6_save_10, sX6_save_11, sX6_save_14, sX6_save_15, sX6_save_16, sX6_save_18, sX6_save_19, sX6_save_22, sX6_save_23, sX6_save_24, sX6_save_27, sX6_save_28, sX6_save_29, sX6_save_32, sX6_save_33, sX6_save_36, sX6_save_37, sX6_save_40, sX6_save_41, sX6_save_44, sX6_save_45, sX6_save_47, sX6_save_48, sX6_save_49, sX6_save_50, sX6_save_53, sX6_save_54, sX6_save_55, sX6_save_58, sX6_save_59, sX6_save_60, sX6_save_63, kI_i, kL_l, kV_v, am_rv_s, am_kl_i, am_kl_r, am_kl_n, am_kl_l, true_and, and_true, and_self, true_or, or_true, implies_true, forall_const, not_true_eq_false, not_false_eq_true, false_implies, true_implies, if_true, if_false, Bool.true_eq_false, Bool.false_eq_true, ob_30, r_30_0, k1, k2, nI_add, n40, e40, iz, nI_clamp, r_31, o2, e2, g31, nI_1]
    · rw [gI_j (by omega)]; exact g32
    · rw [gI_e]; simp
    · simp; omega
    · have hst : StC (sI M2 30 2 (nI (P1.length + 1))) (32 + 9 * ((o1 + i) % 40)) ap lim (P1 ++ [S])[i] := by
        by_cases hil : i < P1.length
        · rw [List.getElem_append_left hil]
          have hne : (o1 + i) % 40 ≠ (o1 + P1.length) % 40 := by omega
          exact StC_of (M := M2) (fun c j x y => gI_o (by omega)) (fun _ _ _ _ => rfl) (StC_Fw f2 (fun c j x y => by omega) (ks i hil))
        · have hie : i = P1.length := by simp at hi; omega
          subst hie
          rw [List.getElem_append_right (Nat.le_refl _)]
          simp only [Nat.sub_self, List.getElem_cons_zero]
          exact StC_of (M := M2) (fun c j x y => gI_o (by omega)) (fun _ _ _ _ => rfl) s2
      exact ⟨hst, StC_sz hst⟩
    · exact StC_of (M := M2) (fun c j x y => gI_o (by omega)) (fun _ _ _ _ => rfl) (StC_Fw f2 (fun c j x y => by omega) k3)
    · exact (f2.mo (fun c j z => by unfold XP2; omega)).tr (Fw.s (by unfold XP2; omega))
  unfold paA
  by_cases c1 : P.length = 40
  · rw [if_pos c1]
    have e1 : nI (old + 1) - nI (old + 1) / 40 * 40 = nI ((old + 1) % 40) := by rw [show (40 : Int32) = nI 40 from rfl]; exact pk_rem (by omega) (by omega) (by omega)
    have g2' : gI M 30 2 = 40 := by rw [g2, c1]; rfl
    have hm : (old + 1) % 40 < 40 := Nat.mod_lt _ (by omega)
    have hdl : (P.drop 1).length = 39 := by simp; omega
    obtain ⟨M', e, r⟩ := key (sI (sI M 30 1 (nI ((old + 1) % 40))) 30 2 39) (P.drop 1) ((old + 1) % 40) hm (by omega) hW (by rw [gI_j (by omega), gI_e]) (by rw [gI_e, hdl]; rfl) (fun i hi => by
      rw [List.getElem_drop]
      have hh := (hs (1 + i) (by omega)).1
      have em : ((old + 1) % 40 + i) % 40 = (old + (1 + i)) % 40 := by omega
      rw [em]
      exact StC_of (M := M) (fun c j x y => by rw [gI_o (by omega), gI_o (by omega)]) (fun _ _ _ _ => rfl) hh) (StC_of (M := M) (fun c j x y => by rw [gI_o (by omega), gI_o (by omega)]) (fun _ _ _ _ => rfl) h)
    refine ⟨M', fun d Q => ?_, r.1, r.2.1, ((Fw.s (by unfold XP2; omega)).tr (Fw.s (by unfold XP2; omega))).tr r.2.2⟩
    have z39 : (40 : Int32) - 1 = 39 := by decide
    rw [eX6_save]
    simp (disch := (first | assumption | omega | decide)) only [sX6_save_0, sX6_save_1, sX6_save_4, sX6_save_6, sX6_save_9, sX6_save_10, sX6_save_11, sX6_save_14, sX6_save_15, sX6_save_16, sX6_save_18, sX6_save_19, sX6_save_22, sX6_save_23, sX6_save_24, sX6_save_27, sX6_save_28, sX6_save_29, sX6_save_33, sX6_save_36, sX6_save_37, sX6_save_40, sX6_save_41, sX6_save_44, sX6_save_45, sX6_save_47, sX6_save_48, sX6_save_49, sX6_save_50, sX6_save_53, sX6_save_54, sX6_save_55, sX6_save_58, sX6_save_59, sX6_save_60, sX6_save_63, kI_i, kL_l, kV_v, am_rv_s, am_kl_i, am_kl_r, am_kl_n, am_kl_l, true_and, and_true, and_self, true_or, or_true, implies_true, forall_const, not_true_eq_false, not_false_eq_true, false_implies, true_implies, if_true, if_false, Bool.true_eq_false, Bool.false_eq_true, ob_30, g1, g2', nI_1, n40, e1, gI_j, z39]
    exact e d Q
  · rw [if_neg c1]
    obtain ⟨M', e, r⟩ := key M P old ho (by omega) hW g1 g2 (fun i hi => (hs i hi).1) h
    refine ⟨M', fun d Q => ?_, r⟩
    have g2' : (nI P.length = 40) = False := by rw [show (40 : Int32) = nI 40 from rfl, nI_eqE (by omega) (by omega)]; exact eq_false c1
    rw [eX6_save]
    simp (disch := (first | assumption | omega | decide)) only [sX6_save_0, sX6_save_1, sX6_save_4, sX6_save_6, sX6_save_9, sX6_save_10, sX6_save_11, sX6_save_14, sX6_save_15, sX6_save_16, sX6_save_18, sX6_save_19, sX6_save_22, sX6_save_23, sX6_save_24, sX6_save_27, sX6_save_28, sX6_save_29, sX6_save_33, sX6_save_36, sX6_save_37, sX6_save_40, sX6_save_41, sX6_save_44, sX6_save_45, sX6_save_47, sX6_save_48, sX6_save_49, sX6_save_50, sX6_save_53, sX6_save_54, sX6_save_55, sX6_save_58, sX6_save_59, sX6_save_60, sX6_save_63, kI_i, kL_l, kV_v, am_rv_s, am_kl_i, am_kl_r, am_kl_n, am_kl_l, true_and, and_true, and_self, true_or, or_true, implies_true, forall_const, not_true_eq_false, not_false_eq_true, false_implies, true_implies, if_true, if_false, Bool.true_eq_false, Bool.false_eq_true, ob_30, g2, g2']
    exact e d Q
theorem c_restore {P : List Sg} (hW : WR M) (hP : PaC M ap lim P) (h : StC M 3 ap lim S) : ∃ M', (∀ d (Q : am_Q), am_big (d + 3) mX6_restore [.ref 30, .ref 3] 488 M Q = Q (some (.int (if P.length = 0 then -1 else nI (P.length - 1)))) M') ∧ PaC M' ap lim P.dropLast ∧ StC M' 3 ap lim (P.getLastD S) ∧ Fw (fun c j => XP2 c j ∨ (3 ≤ c ∧ c ≤ 11)) M M' := by
  obtain ⟨old, ho, g1, g2, hl, hs⟩ := hP
  have n40 : ((40 : Int32) = 0) = False := eq_false (by decide)
  by_cases c1 : P.length = 0
  · have hP0 : P = [] := List.length_eq_zero_iff.mp c1
    subst hP0
    refine ⟨M, fun d Q => ?_, ⟨old, ho, g1, g2, hl, hs⟩, h, Fw.rf⟩
    have g2' : gI M 30 2 = 0 := g2
    rw [eX6_restore]
    simp (disch := (first | assumption | omega | decide)) only [sX6_restore_0, sX6_restore_1, sX6_restore_4, sX6_restore_7, sX6_restore_8, sX6_restore_9, sX6_restore_10, sX6_restore_11, sX6_restore_14, sX6_restore_15, sX6_restore_16, sX6_restore_19, sX6_restore_20, sX6_restore_21, sX6_restore_24, sX6_restore_25, sX6_restore_28, sX6_restore_29, sX6_restore_32, sX6_restore_33, sX6_restore_35, sX6_restore_36, sX6_restore_37, sX6_restore_40, sX6_restore_41, sX6_restore_44, kI_i, kL_l, kV_v, am_rv_s, am_kl_i, am_kl_r, am_kl_n, am_kl_l, true_and, and_true, and_self, true_or, or_true, implies_true, forall_const, not_true_eq_false, not_false_eq_true, false_implies, true_implies, if_true, if_false, Bool.true_eq_false, Bool.false_eq_true, ob_30, g2', List.length_nil]
  · have hm : (old + (P.length - 1)) % 40 < 40 := Nat.mod_lt _ (by omega)
    have e40 : nI (old + (P.length - 1)) - nI (old + (P.length - 1)) / 40 * 40 = nI ((old + (P.length - 1)) % 40) := by rw [show (40 : Int32) = nI 40 from rfl]; exact pk_rem (by omega) (by omega) (by omega)
    have g2' : (nI P.length = 0) = False := by rw [nI_z (by omega)]; exact eq_false c1
    have gm : nI P.length - 1 = nI (P.length - 1) := nI_sub1 (by omega)
    have iz : (am_iw 488 31 5 (nI ((old + (P.length - 1)) % 40)) ∨ am_iw 488 31 6 (nI ((old + (P.length - 1)) % 40)) ∨ am_iw 488 31 7 (nI ((old + (P.length - 1)) % 40))) = True := by rw [iw_31 hm]; simp
    have hst := (hs (P.length - 1) (by omega)).1
    have hlast : P.getLastD S = P[P.length - 1]'(by omega) := by
      rw [List.getLastD_eq_getLast?, List.getLast?_eq_getElem?, List.getElem?_eq_getElem (by omega)]; rfl
    have hst1 : StC (sI M 30 2 (nI (P.length - 1))) (32 + 9 * ((old + (P.length - 1)) % 40)) ap lim (P[P.length - 1]'(by omega)) := StC_of (M := M) (fun c j x y => gI_o (by omega)) (fun _ _ _ _ => rfl) hst
    have hW1 : WR (sI M 30 2 (nI (P.length - 1))) := hW
    obtain ⟨M2, e2, s2, f2⟩ := c_copyState (STs_3 hW1) hst1 (by omega) (StC_sz hst1)
    have o3 := ob_3
    have g31 : gI M2 30 2 = nI (P.length - 1) := by rw [f2.I (by omega), gI_e]
    refine ⟨M2, fun d Q => ?_, ⟨old, ho, ?_, ?_, by simp; omega, fun i hi => ?_⟩, by rw [hlast]; exact s2, (Fw.s (Or.inl (by unfold XP2; omega))).tr (f2.mo (fun c j z => Or.inr (by omega)))⟩
    · rw [eX6_restore, if_neg c1]
      simp (disch := (first | assumption | omega | decide)) only [sX6_restore_0, sX6_restore_1, sX6_restore_4, sX6_restore_7, sX6_restore_8, sX6_restore_9, sX6_restore_10, sX6_restore_11, sX6_restore_14, sX6_restore_15, sX6_restore_16, sX6_restore_19, sX6_restore_20, sX6_restore_21, sX6_restore_24, sX6_restore_25, sX6_restore_28, sX6_restore_29, sX6_restore_32, sX6_restore_33, sX6_restore_35, sX6_restore_36, sX6_restore_37, sX6_restore_40, sX6_restore_41, sX6_restore_44, kI_i, kL_l, kV_v, am_rv_s, am_kl_i, am_kl_r, am_kl_n, am_kl_l, true_and, and_true, and_self, true_or, or_true, implies_true, forall_const, not_true_eq_false, not_false_eq_true, false_implies, true_implies, if_true, if_false, Bool.true_eq_false, Bool.false_eq_true, ob_30, g2, g2', gm, gI_e, gI_j, g1, gR_sI, r_30_0, nI_add, n40, e40, iz, nI_clamp, r_31, o3, e2, g31]
    · rw [f2.I (by omega), gI_j (by omega)]; exact g1
    · rw [g31]; simp
    · have hil : i < P.length - 1 := by simpa using hi
      have := hs i (by omega)
      rw [List.getElem_dropLast]
      exact ⟨StC_Fw f2 (fun c j x y => by omega) (StC_of (M := M) (fun c j x y => gI_o (by omega)) (fun _ _ _ _ => rfl) this.1), this.2⟩
end
