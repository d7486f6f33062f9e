/-! texts kept: what was read, on the class's side -/
abbrev wkT (tp : List Nat) : WkR := wks (tf tp) tp.length 6 0 [] false 12
abbrev lwT (tp : List Nat) : Bool × Nat × List Cl := lawP (tf tp) tp.length 240 0 []
abbrev plT (tp : List Nat) : Bool × List Dd × Nat := pln (tf tp) tp.length 16 0 []
def apB (l : List Ap) : Prop := l.length ≤ 4 ∧ ∀ t, t ∈ l → t.2 = 0 ∨ t.2 = 1
def lmB (v : Int32) : Prop := ∃ k, k ≤ 12 ∧ v = nI k
theorem rbd_in {T : Nat → Int32} {len p : Nat} {lo hi : Int32} (h : ¬ (rbd T len p lo hi).1 = -1) : lo ≤ (rbd T len p lo hi).1 ∧ (rbd T len p lo hi).1 ≤ hi := by
  unfold rbd at h ⊢
  split
  · rename_i z; rw [if_pos z] at h; exact absurd rfl h
  · rename_i z
    rw [if_neg z] at h
    split
    · rename_i y; rw [if_pos y] at h; exact absurd rfl h
    · rename_i y
      exact ⟨Int32.not_lt.mp (fun q => y (Or.inl q)), Int32.not_lt.mp (fun q => y (Or.inr q))⟩
theorem in01' {v : Int32} (h : 0 ≤ v ∧ v ≤ 1) : v = 0 ∨ v = 1 := by
  have t0 : (0 : Int32).toInt = 0 := by decide
  have t1 : (1 : Int32).toInt = 1 := by decide
  rw [Int32.le_iff_toInt_le, Int32.le_iff_toInt_le, t0, t1] at h
  rcases (show v.toInt = 0 ∨ v.toInt = 1 by omega) with q | q
  · exact Or.inl (Int32.toInt_inj.mp (q.trans t0.symm))
  · exact Or.inr (Int32.toInt_inj.mp (q.trans t1.symm))
theorem lm_in {v : Int32} (h : 1 ≤ v ∧ v ≤ 12) : lmB v := by
  have h0 : ¬ v < 0 := Int32.not_lt.mpr (Int32.le_trans (by decide) h.1)
  obtain ⟨k, hk, rfl⟩ := nI_of h0
  refine ⟨k, ?_, rfl⟩
  have := h.2
  rwa [show (12 : Int32) = nI 12 from rfl, nI_leE hk (by omega)] at this
theorem wit_B {T : Nat → Int32} {len p : Nat} {x : Int32} (h : (wit T len p x 1 1).1 = true) : (wit T len p x 1 1).2.1 = 0 ∨ (wit T len p x 1 1).2.1 = 1 := by
  unfold wit at h ⊢
  split
  · rename_i z
    rw [if_pos z] at h
    split
    · rename_i y; rw [if_pos y] at h; cases h
    · rename_i y; exact in01' (rbd_in y)
  · exact Or.inr rfl
theorem wapp_B {T : Nat → Int32} {len p : Nat} (h : (wapp T len p).1 = true) : (wapp T len p).2.2.1 = 0 ∨ (wapp T len p).2.2.1 = 1 := by
  unfold wapp at h ⊢
  split
  · rename_i z
    rw [if_pos z] at h
    split
    · rename_i y; rw [if_pos y] at h; cases h
    · rename_i y
      rw [if_neg y] at h
      exact wit_B h
  · rename_i z
    rw [if_neg z] at h
    split
    · rename_i z2
      rw [if_pos z2] at h
      split
      · rename_i y; rw [if_pos y] at h; cases h
      · rename_i y; exact in01' (rbd_in y)
    · exact Or.inr rfl
theorem wrul_B {T : Nat → Int32} {len p : Nat} {lim : Int32} (hl : lmB lim) (h : (wrul T len p lim).1 = true) : lmB (wrul T len p lim).2.1 := by
  unfold wrul at h ⊢
  split
  · rename_i z
    rw [if_pos z] at h
    split
    · rename_i y; rw [if_pos y] at h; cases h
    · rename_i y; exact lm_in (rbd_in y)
  · exact hl
theorem wks_B {T : Nat → Int32} {len : Nat} : ∀ (j p : Nat) (l : List Ap) (ru : Bool) (lim : Int32), apB l → lmB lim → (wks T len j p l ru lim).1 = true → apB (wks T len j p l ru lim).2.1 ∧ lmB (wks T len j p l ru lim).2.2.1 ∧ 0 < (wks T len j p l ru lim).2.1.length
  | 0, p, l, ru, lim, _, _, h => by cases h
  | j + 1, p, l, ru, lim, ha, hm, h => by
    have aft : ∀ (q : Nat) (l : List Ap) (ru : Bool) (lim : Int32) (R : WkR), apB l → lmB lim → (R = if sg T len (skp T len q) = -1 then (decide (0 < l.length), l, lim, skp T len q) else if sg T len (skp T len q) = 59 then wks T len j (skp T len q + 1) l ru lim else (false, l, lim, skp T len q)) → R.1 = true → apB R.2.1 ∧ lmB R.2.2.1 ∧ 0 < R.2.1.length := by
      intro q l ru lim R ha hm e hR
      subst e
      by_cases z : sg T len (skp T len q) = -1
      · rw [if_pos z] at hR ⊢
        exact ⟨ha, hm, of_decide_eq_true hR⟩
      · rw [if_neg z] at hR ⊢
        by_cases y : sg T len (skp T len q) = 59
        · rw [if_pos y] at hR ⊢
          exact wks_B j _ l ru lim ha hm hR
        · rw [if_neg y] at hR; cases hR
    unfold wks at h ⊢
    simp only at h ⊢
    by_cases c1 : sg T len (skp T len p) = 115 ∧ ru = false
    · rw [if_pos c1] at h ⊢
      by_cases c2 : (wrul T len (skp T len p + 1) lim).1 = false
      · rw [if_pos c2] at h; cases h
      · rw [if_neg c2] at h ⊢
        exact aft _ _ _ _ _ ha (wrul_B hm (by simpa using c2)) rfl h
    · rw [if_neg c1] at h ⊢
      by_cases c3 : sg T len (skp T len p) = 97 ∧ l.length < 4
      · rw [if_pos c3] at h ⊢
        by_cases c2 : (wapp T len (skp T len p + 1)).1 = false
        · rw [if_pos c2] at h; cases h
        · rw [if_neg c2] at h ⊢
          refine aft _ _ _ _ _ ⟨by rw [List.length_append]; simp; omega, fun t ht => ?_⟩ hm rfl h
          rw [List.mem_append, List.mem_singleton] at ht
          rcases ht with ht | rfl
          · exact ha.2 t ht
          · exact wapp_B (by simpa using c2)
      · rw [if_neg c3] at h; cases h
theorem wkT_B {tp : List Nat} (h : (wkT tp).1 = true) : apB (wkT tp).2.1 ∧ lmB (wkT tp).2.2.1 ∧ 0 < (wkT tp).2.1.length := wks_B 6 0 [] false 12 ⟨by simp, fun t ht => by cases ht⟩ ⟨12, by omega, rfl⟩ h
/-- who is in the room, as bits -/
def rbF (l : List Ap) : Nat → Nat
  | 0 => 0
  | k + 1 => rbF l k ||| (if (l.getD k (0, 0)).2 = 1 then 2 ^ k else 0)
theorem rbF_bit {l : List Ap} (i : Nat) : ∀ n, (rbF l n).testBit i = decide (i < n ∧ (l.getD i (0, 0)).2 = 1)
  | 0 => by
    have : ¬ (i < 0 ∧ (l.getD i (0, 0)).2 = 1) := fun z => by omega
    rw [decide_eq_false this]
    exact Nat.zero_testBit i
  | n + 1 => by
    unfold rbF
    rw [Nat.testBit_or, rbF_bit i n, Bool.eq_iff_iff, Bool.or_eq_true, decide_eq_true_eq, decide_eq_true_eq]
    by_cases z : (l.getD n (0, 0)).2 = 1
    · rw [if_pos z, Nat.testBit_two_pow, decide_eq_true_eq]
      constructor
      · rintro (⟨a, b⟩ | rfl)
        · exact ⟨by omega, b⟩
        · exact ⟨by omega, z⟩
      · rintro ⟨a, b⟩
        by_cases q : i = n
        · exact Or.inr q.symm
        · exact Or.inl ⟨by omega, b⟩
    · rw [if_neg z, Nat.zero_testBit]
      constructor
      · rintro (⟨a, b⟩ | h)
        · exact ⟨by omega, b⟩
        · cases h
      · rintro ⟨a, b⟩
        by_cases q : i = n
        · subst q; exact absurd b z
        · exact Or.inl ⟨by omega, b⟩
theorem rbF_lt {l : List Ap} : ∀ n, rbF l n < 2 ^ n
  | 0 => by unfold rbF; omega
  | n + 1 => by
    unfold rbF
    refine Nat.or_lt_two_pow (Nat.lt_of_lt_of_le (rbF_lt n) (Nat.pow_le_pow_right (by omega) (by omega))) ?_
    split
    · exact Nat.pow_lt_pow_right (by omega) (by omega)
    · exact Nat.pow_pos (by omega)
/-- what stands behind a workshop's text -/
def sgT (l : List Ap) : Sg := ([], fun i => (l.getD i (0, 0)).1, rbF l l.length, 0, [])
def XRd (c j : Nat) : Prop := (c = 1 ∧ j ≠ 1) ∨ (c = 12 ∧ (j = 3 ∨ j = 4)) ∨ c = 17 ∨ c = 18 ∨ c = 408 ∨ c = 409 ∨ (412 ≤ c ∧ c ≤ 415)
section
variable {M N : am_M} {ap lim : Nat} {S : Sg} {P : List Sg} {im : Option Sg} {tp : List Nat} {d : Nat} {Q : am_Q} {LL : List (List Nat)} {h : Int32} {PL : List (List Dd)}
theorem TP_0 (hW : WR M) (h : TC M tp) : TP (sI M 1 2 0) tp.length 0 := ⟨by rw [gR_sI]; exact hW _ _ _ rfl, by rw [gI_j (by omega)]; exact h.1, gI_e, h.2.1, Nat.zero_le _⟩
theorem gI2_0 : gI (sI M 1 2 0) 2 = gI M 2 := funext fun j => gI_o (by omega)
theorem getD_of {l : List Ap} {i : Nat} (hi : i < l.length) : l.getD i (0, 0) = l[i] := by rw [List.getD_eq_getElem?_getD, List.getElem?_eq_getElem hi]; rfl
theorem c_reads0 (hW : WR M) (h : TC M tp) : ∃ M', (∀ d (Q : am_Q), 8 ≤ d → am_big d mX10_reads [.ref 0, .int 0] 488 M Q = Q (some (.int (bz (wkT tp).1))) M') ∧ gI M' 1 2 = nI (wkT tp).2.2.2 ∧ ((wkT tp).1 = true → gI M' 12 3 = nI (wkT tp).2.1.length ∧ gI M' 12 4 = (wkT tp).2.2.1 ∧ ∀ i, i < (wkT tp).2.1.length → gI M' 17 i = ((wkT tp).2.1.getD i (0, 0)).1 ∧ gI M' 18 i = ((wkT tp).2.1.getD i (0, 0)).2) ∧ Fw XRd M M' := by
  have t0 := TP_0 hW h
  have hW0 : WR (sI M 1 2 0) := hW
  have e := fun d (Q : am_Q) => c_readWk (d := d) (Q := Q) hW0 t0
  rw [gI2_0, wks_c (tp_c h), show wks (tf tp) tp.length 6 0 [] false 12 = wkT tp from rfl] at e
  have f0 : Fw XRd M (sI M 1 2 0) := Fw.s (by unfold XRd; omega)
  generalize hM0 : sI M 1 2 0 = M0 at *
  refine ⟨wm M0 (wkT tp).2.1 (wkT tp).2.2.1 (wkT tp).2.2.2, fun d Q hd => ?_, gI_e, fun hok => ?_, f0.tr ?_⟩
  · obtain ⟨d', rfl⟩ : ∃ d', d = d' + 7 := ⟨d - 7, by omega⟩
    rw [eX10_reads]
    simp (disch := (first | assumption | omega | decide)) only [sX10_reads_0, sX10_reads_1, sX10_reads_4, sX10_reads_5, sX10_reads_8, sX10_reads_9, sX10_reads_12, sX10_reads_13, sX10_reads_16, sX10_reads_17, sX10_reads_20, sX10_reads_23, sX10_reads_24, sX10_reads_25, sX10_reads_26, sX10_reads_29, sX10_reads_30, sX10_reads_33, sX10_reads_34, sX10_reads_37, sX10_reads_40, sX10_reads_43, sX10_reads_44, sX10_reads_47, sX10_reads_48, sX10_reads_51, sX10_reads_54, kI_i, kL_l, kV_v, am_rv_s, am_kl_i, am_kl_r, am_kl_n, am_kl_l, true_and, and_true, and_self, true_or, or_true, implies_true, forall_const, not_true_eq_false, not_false_eq_true, false_implies, true_implies, if_true, if_false, Bool.true_eq_false, Bool.false_eq_true, ob_0, ob_1, ob_12, r_0_0, r_0_2, hM0, e, bz_01]
  · obtain ⟨b1, b2, b3⟩ := wkT_B hok
    have l4 := b1.1
    unfold wm
    refine ⟨?_, ?_, fun i hi => ⟨?_, ?_⟩⟩
    · rw [gI_o (by omega), gI_j (by omega), gI_e]
    · rw [gI_o (by omega), gI_e]
    · rw [gI_o (by omega), gI_o (by omega), gI_o (by omega), gI_fn (by omega), gI_fl (by omega)]
      unfold kfn
      rw [dif_pos hi, getD_of hi]
    · rw [gI_o (by omega), gI_o (by omega), gI_o (by omega), gI_fl (by omega)]
      unfold rfn
      rw [dif_pos hi, getD_of hi]
  · unfold wm
    refine ((((Fw.f (fun k _ => ?_)).tr (Fw.f (fun k _ => ?_))).tr (Fw.s ?_)).tr (Fw.s ?_)).tr (Fw.s ?_) <;> unfold XRd <;> omega
theorem c_reads1 (hW : WR M) (h : TC M tp) : ∃ M', (∀ d (Q : am_Q), 31 ≤ d → am_big d mX10_reads [.ref 0, .int 1] 488 M Q = Q (some (.int (bz (lwT tp).1))) M') ∧ gI M' 1 2 = nI (lwT tp).2.1 ∧ ((lwT tp).1 = true → LW M' 408 (cod (lwT tp).2.2)) ∧ Fw XRd M M' := by
  have t0 := TP_0 hW h
  have hW0 : WR (sI M 1 2 0) := hW
  obtain ⟨l', e, r⟩ := c_readLaw hW0 t0
  rw [gI2_0, lawP_c (tp_c h), show lawP (tf tp) tp.length 240 0 [] = lwT tp from rfl] at e r
  have f0 : Fw XRd M (sI M 1 2 0) := Fw.s (by unfold XRd; omega)
  generalize hM0 : sI M 1 2 0 = M0 at *
  refine ⟨PS M0 (lwT tp).2.1 l', fun d Q hd => ?_, gI_e, fun hok => ?_, f0.tr ?_⟩
  · obtain ⟨d', rfl⟩ : ∃ d', d = d' + 1 := ⟨d - 1, by omega⟩
    have e' := fun (Q : am_Q) => e d' Q (by omega)
    have n10 : ((1 : Int32) = 0) = False := by simp
    rw [eX10_reads]
    simp (disch := (first | assumption | omega | decide)) only [sX10_reads_0, sX10_reads_1, sX10_reads_4, sX10_reads_5, sX10_reads_8, sX10_reads_9, sX10_reads_12, sX10_reads_13, sX10_reads_16, sX10_reads_17, sX10_reads_20, sX10_reads_23, sX10_reads_24, sX10_reads_25, sX10_reads_26, sX10_reads_29, sX10_reads_30, sX10_reads_33, sX10_reads_34, sX10_reads_37, sX10_reads_40, sX10_reads_43, sX10_reads_44, sX10_reads_47, sX10_reads_48, sX10_reads_51, sX10_reads_54, kI_i, kL_l, kV_v, am_rv_s, am_kl_i, am_kl_r, am_kl_n, am_kl_l, true_and, and_true, and_self, true_or, or_true, implies_true, forall_const, not_true_eq_false, not_false_eq_true, false_implies, true_implies, if_true, if_false, Bool.true_eq_false, Bool.false_eq_true, ob_0, ob_1, ob_407, r_0_0, r_0_7, hM0, n10, e', bz_01]
  · obtain ⟨rfl, r2⟩ := r hok
    have hW1 : WR (PS M0 (lwT tp).2.1 (cod (lwT tp).2.2)) := hW0
    refine ⟨⟨by omega, rfl, rfl, rfl, hW1 _ _ _ rfl, hW1 _ _ _ rfl⟩, ?_, by omega, fun k hk => ?_⟩
    · unfold PS
      rw [gI_o (by omega), gI_e]
    · unfold PS
      rw [gI_o (by omega), gI_o (by omega), gI_fl (by omega)]
      unfold cfn
      rw [dif_pos hk]
  · unfold PS
    refine ((Fw.f (fun k _ => ?_)).tr (Fw.s ?_)).tr (Fw.s ?_) <;> unfold XRd <;> omega
theorem c_readPl {M : am_M} {len : Nat} (hW : WR M) (h : TP M len 0) : ∃ M', (∀ Q, am_big (d + 4) mX0_readFrom [.ref 412, .ref 1] 488 M Q = Q (some (.int (bz (pln (gI M 2) len 16 0 []).1))) M') ∧ TP M' len (pln (gI M 2) len 16 0 []).2.2 ∧ LH M' 412 (pln (gI M 2) len 16 0 []).2.1 ∧ Fr (XP 412) M M' := by
  have ds : DLs M 412 := ⟨by omega, rfl, rfl, rfl, rfl, hW _ _ _ rfl, hW _ _ _ rfl, hW _ _ _ rfl⟩
  have h0 : TP (sI M 412 3 0) len 0 := ⟨h.1, by rw [gI_o (by omega)]; exact h.2.1, by rw [gI_o (by omega)]; exact h.2.2.1, h.2.2.2⟩
  have hl : LH (sI M 412 3 0) 412 [] := ⟨⟨ds, by rw [gI_e]; rfl, by simp⟩, fun k t hk => by cases hk⟩
  have hT : gI (sI M 412 3 0) 2 = gI M 2 := funext fun j => gI_o (by omega)
  obtain ⟨M', e, t, lh, fr⟩ := l_readFrom (d := d) (len := len) (a := 412) (by omega) 16 (sI M 412 3 0) 0 [] h0 hl rfl
  rw [hT] at e t lh
  refine ⟨M', fun Q => ?_, t, lh, (Fr.st (by unfold XP; omega)).tr fr⟩
  rw [eX0_readFrom]
  simp only [sX0_readFrom_0, sX0_readFrom_1, sX0_readFrom_2, sX0_readFrom_5, sX0_readFrom_6, sX0_readFrom_8, sX0_readFrom_10, sX0_readFrom_13, sX0_readFrom_14, sX0_readFrom_15, sX0_readFrom_18, sX0_readFrom_21, sX0_readFrom_22, sX0_readFrom_23, sX0_readFrom_24, sX0_readFrom_27, sX0_readFrom_28, sX0_readFrom_31, sX0_readFrom_32, sX0_readFrom_33, sX0_readFrom_34, sX0_readFrom_37, sX0_readFrom_39, sX0_readFrom_42, sX0_readFrom_43, sX0_readFrom_45, sX0_readFrom_48, sX0_readFrom_51, sX0_readFrom_52, sX0_readFrom_53, sX0_readFrom_56, sX0_readFrom_59, sX0_readFrom_60, kI_i, kL_l, kV_v, am_rv_s, am_kl_i, am_kl_r, am_kl_n, am_kl_l, true_and, and_true, and_self, true_or, or_true, implies_true, forall_const, not_true_eq_false, not_false_eq_true, false_implies, true_implies, if_true, if_false, Bool.true_eq_false, Bool.false_eq_true, ob_412]
  exact e Q
theorem c_reads2 (hW : WR M) (h : TC M tp) : ∃ M', (∀ (Q : am_Q), am_big (d + 5) mX10_reads [.ref 0, .int 2] 488 M Q = Q (some (.int (bz (plT tp).1))) M') ∧ gI M' 1 2 = nI (plT tp).2.2 ∧ LH M' 412 (plT tp).2.1 ∧ Fw XRd M M' := by
  have t0 := TP_0 hW h
  have hW0 : WR (sI M 1 2 0) := hW
  obtain ⟨M', e, t, lh, fr⟩ := c_readPl (d := d) hW0 t0
  rw [gI2_0, pln_c (tp_c h), show pln (tf tp) tp.length 16 0 [] = plT tp from rfl] at e t lh
  have f0 : Fw XRd M (sI M 1 2 0) := Fw.s (by unfold XRd; omega)
  have f1 : Fw XRd (sI M 1 2 0) M' := by
    have q := (Fw.ofFr fr)
    refine ⟨fun b j hb => ?_, q.2⟩
    by_cases z : b = 1
    · subst z
      have hj : j = 1 := by
        by_cases w : j = 1
        · exact w
        · exact absurd (Or.inl ⟨rfl, w⟩) hb
      subst hj
      exact ⟨t.2.1.trans t0.2.1.symm, fr.L _ _, fr.R _ _⟩
    · exact q.1 b j (fun w => hb (by unfold XP at w; unfold XRd; omega))
  generalize hM0 : sI M 1 2 0 = M0 at *
  refine ⟨M', fun Q => ?_, t.2.2.1, lh, f0.tr f1⟩
  have n20 : ((2 : Int32) = 0) = False := by simp
  have n21 : ((2 : Int32) = 1) = False := by simp
  rw [eX10_reads]
  simp (disch := (first | assumption | omega | decide)) only [sX10_reads_0, sX10_reads_1, sX10_reads_4, sX10_reads_5, sX10_reads_8, sX10_reads_9, sX10_reads_12, sX10_reads_13, sX10_reads_16, sX10_reads_17, sX10_reads_20, sX10_reads_23, sX10_reads_24, sX10_reads_25, sX10_reads_26, sX10_reads_29, sX10_reads_30, sX10_reads_33, sX10_reads_34, sX10_reads_37, sX10_reads_40, sX10_reads_43, sX10_reads_44, sX10_reads_47, sX10_reads_48, sX10_reads_51, sX10_reads_54, kI_i, kL_l, kV_v, am_rv_s, am_kl_i, am_kl_r, am_kl_n, am_kl_l, true_and, and_true, and_self, true_or, or_true, implies_true, forall_const, not_true_eq_false, not_false_eq_true, false_implies, true_implies, if_true, if_false, Bool.true_eq_false, Bool.false_eq_true, ob_0, ob_1, ob_412, r_0_0, r_0_10, hM0, n20, n21, e, bz_01]
end
