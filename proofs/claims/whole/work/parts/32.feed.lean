/-! the tape on both sides: a row of bytes -/
def byt (w : Int32) (s : Nat) : Nat := w.toBitVec.toNat / 2 ^ s % 256
def bsx (c : Nat) : Int32 := (nI c).toInt8.toInt32
def by1 (c : Nat) : List Nat := if c = 0 then [] else [c]
def bys (w : Int32) : List Nat := by1 (byt w 24) ++ by1 (byt w 16) ++ by1 (byt w 8) ++ by1 (byt w 0)
theorem byt_lt (w : Int32) (s : Nat) : byt w s < 256 := Nat.mod_lt _ (by omega)
theorem by1_len (c : Nat) : (by1 c).length ≤ 1 := by unfold by1; split <;> simp
theorem bys_len (w : Int32) : (bys w).length ≤ 4 := by
  unfold bys
  have h1 := by1_len (byt w 24)
  have h2 := by1_len (byt w 16)
  have h3 := by1_len (byt w 8)
  have h4 := by1_len (byt w 0)
  simp only [List.length_append]
  omega
theorem bys_mem {w : Int32} {c : Nat} (h : c ∈ bys w) : 0 < c ∧ c < 256 := by
  have h1 : ∀ s, c ∈ by1 (byt w s) → 0 < c ∧ c < 256 := fun s q => by
    unfold by1 at q
    split at q
    · cases q
    · rename_i hz
      have e : c = byt w s := by simpa using q
      have := byt_lt w s
      omega
  unfold bys at h
  rcases List.mem_append.mp h with h | h
  · rcases List.mem_append.mp h with h | h
    · rcases List.mem_append.mp h with h | h
      · exact h1 _ h
      · exact h1 _ h
    · exact h1 _ h
  · exact h1 _ h
theorem ush8 (w s : Int32) (k : Nat) (hs : ((s.toUInt32 &&& Int32.toUInt32 31).toBitVec % 32).toNat = k) : ((w.toUInt32 >>> (s.toUInt32 &&& Int32.toUInt32 31)).toInt32 &&& 255) = nI (byt w k) := by
  rw [pk_and _ 8 (by decide), pk_ushr w s k hs]
  rfl
theorem toI (x : Int32) : x.toInt = if x.toBitVec.toNat < 2 ^ 31 then (x.toBitVec.toNat : Int) else (x.toBitVec.toNat : Int) - 2 ^ 32 := by
  have h := BitVec.toInt_eq_toNat_cond x.toBitVec
  have e : x.toInt = x.toBitVec.toInt := rfl
  rw [e, h]
  split <;> split <;> omega
theorem shr8 (w s : Int32) (k : Nat) (hs : (s.toBitVec.smod 32).toNat = k) (hk : k = 24 ∨ k = 16 ∨ k = 8 ∨ k = 0) : (w >>> s).toBitVec.toNat % 256 = byt w k := by
  have h := pk_shr w s k hs
  rw [toI, toI, Int.shiftRight_eq_div_pow] at h
  have h1 : (w >>> s).toBitVec.toNat < 2 ^ 32 := (w >>> s).toBitVec.isLt
  have h2 : w.toBitVec.toNat < 2 ^ 32 := w.toBitVec.isLt
  unfold byt
  generalize (w >>> s).toBitVec.toNat = x at *
  generalize w.toBitVec.toNat = y at *
  rcases hk with rfl | rfl | rfl | rfl <;> (split at h <;> split at h <;> omega)
theorem sh8 (w s : Int32) (k : Nat) (hs : (s.toBitVec.smod 32).toNat = k) (hk : k = 24 ∨ k = 16 ∨ k = 8 ∨ k = 0) : (w >>> s) &&& 255 = nI (byt w k) := by
  rw [pk_and _ 8 (by decide)]
  exact congrArg nI (shr8 w s k hs hk)
theorem i8of (x : Int32) : x.toInt8 = (nI (x.toBitVec.toNat % 256)).toInt8 := by
  rw [← Int8.toBitVec_inj]
  have e1 : ∀ y : Int32, y.toInt8.toBitVec = y.toBitVec.signExtend 8 := fun _ => rfl
  rw [e1, e1]
  apply BitVec.eq_of_toNat_eq
  rw [BitVec.signExtend_eq_setWidth_of_le _ (by omega), BitVec.signExtend_eq_setWidth_of_le _ (by omega), BitVec.toNat_setWidth, BitVec.toNat_setWidth, pk_tn (by have : x.toBitVec.toNat % 256 < 256 := Nat.mod_lt _ (by omega); omega)]
  omega
theorem sb8 (w s : Int32) (k : Nat) (hs : (s.toBitVec.smod 32).toNat = k) (hk : k = 24 ∨ k = 16 ∨ k = 8 ∨ k = 0) : (w >>> s).toInt8.toInt32 = bsx (byt w k) := by
  rw [i8of, shr8 w s k hs hk]
  rfl
/-- the class's tape, the reference's -/
def TC (M : am_M) (tp : List Nat) : Prop := gI M 1 1 = nI tp.length ∧ tp.length ≤ 240 ∧ ∀ k (h : k < tp.length), gI M 2 k = nI tp[k]
def TM (M : am_M) (tp : List Nat) : Prop := gI M 457 6 = nI tp.length ∧ tp.length ≤ 240 ∧ ∀ k (h : k < tp.length), gI M 458 k = bsx tp[k]
theorem nI_z {c : Nat} (h : c < 2 ^ 31) : (nI c = 0) = (c = 0) := by
  have := nI_eqE (a := c) (b := 0) h (by omega)
  exact this
theorem k24 : (24 : Int32) + -8 = 16 := by decide
theorem k16 : (16 : Int32) + -8 = 8 := by decide
theorem k8 : (8 : Int32) + -8 = 0 := by decide
theorem k0 : (0 : Int32) + -8 = -8 := by decide
theorem l24 : ((24 : Int32) < 0) = False := eq_false (by decide)
theorem l16 : ((16 : Int32) < 0) = False := eq_false (by decide)
theorem l8 : ((8 : Int32) < 0) = False := eq_false (by decide)
theorem l0 : ((0 : Int32) < 0) = False := eq_false (by decide)
theorem lm8 : ((-8 : Int32) < 0) = True := eq_true (by decide)
section
variable {d : Nat} {M : am_M} {Q : am_Q}
theorem l_signsOf {w s acc : Int32} {k : Nat} (hs : ((s.toUInt32 &&& Int32.toUInt32 31).toBitVec % 32).toNat = k) (h0 : ¬ s < 0) : ok d mX9_signsOf 488 Q 488 0 0 5 [some (.int w), some (.int acc), some (.int s)] [] M = ok d mX9_signsOf 488 Q 488 0 0 5 [some (.int w), some (.int (acc + nI (by1 (byt w k)).length)), some (.int (s + -8))] [] M := by
  have e1 := ush8 w s k hs
  have b1 := byt_lt w k
  rw [sX9_signsOf_5]
  unfold by1
  by_cases hc : byt w k = 0
  · simp only [sX9_signsOf_0, sX9_signsOf_1, sX9_signsOf_2, sX9_signsOf_4, sX9_signsOf_6, sX9_signsOf_9, sX9_signsOf_10, sX9_signsOf_11, sX9_signsOf_12, sX9_signsOf_13, sX9_signsOf_16, sX9_signsOf_17, sX9_signsOf_20, sX9_signsOf_21, sX9_signsOf_24, sX9_signsOf_25, sX9_signsOf_26, sX9_signsOf_27, sX9_signsOf_30, sX9_signsOf_33, sX9_signsOf_34, kI_i, kL_l, kV_v, am_rv_s, am_kl_i, am_kl_r, am_kl_n, am_kl_l, true_and, and_true, and_self, true_or, or_true, implies_true, forall_const, not_true_eq_false, not_false_eq_true, false_implies, true_implies, if_true, if_false, Bool.true_eq_false, Bool.false_eq_true, h0, e1, nI_z (by omega : byt w k < 2 ^ 31), hc, nI_0]
    rfl
  · simp only [sX9_signsOf_0, sX9_signsOf_1, sX9_signsOf_2, sX9_signsOf_4, sX9_signsOf_6, sX9_signsOf_9, sX9_signsOf_10, sX9_signsOf_11, sX9_signsOf_12, sX9_signsOf_13, sX9_signsOf_16, sX9_signsOf_17, sX9_signsOf_20, sX9_signsOf_21, sX9_signsOf_24, sX9_signsOf_25, sX9_signsOf_26, sX9_signsOf_27, sX9_signsOf_30, sX9_signsOf_33, sX9_signsOf_34, kI_i, kL_l, kV_v, am_rv_s, am_kl_i, am_kl_r, am_kl_n, am_kl_l, true_and, and_true, and_self, true_or, or_true, implies_true, forall_const, not_true_eq_false, not_false_eq_true, false_implies, true_implies, if_true, if_false, Bool.true_eq_false, Bool.false_eq_true, h0, e1, nI_z (by omega : byt w k < 2 ^ 31), hc]
    rfl
theorem c_signsOf {w : Int32} : am_big (d + 1) mX9_signsOf [.int w] 488 M Q = Q (some (.int (nI (bys w).length))) M := by
  rw [eX9_signsOf]
  simp only [sX9_signsOf_0, sX9_signsOf_1, sX9_signsOf_2, sX9_signsOf_4, sX9_signsOf_6, sX9_signsOf_9, sX9_signsOf_10, sX9_signsOf_11, sX9_signsOf_12, sX9_signsOf_13, sX9_signsOf_16, sX9_signsOf_17, sX9_signsOf_20, sX9_signsOf_21, sX9_signsOf_24, sX9_signsOf_25, sX9_signsOf_26, sX9_signsOf_27, sX9_signsOf_30, sX9_signsOf_33, sX9_signsOf_34, kI_i, kL_l, kV_v, am_rv_s, am_kl_i, am_kl_r, am_kl_n, am_kl_l, true_and, and_true, and_self, true_or, or_true, implies_true, forall_const, not_true_eq_false, not_false_eq_true, false_implies, true_implies, if_true, if_false, Bool.true_eq_false, Bool.false_eq_true]
  rw [l_signsOf (s := 24) (k := 24) (by decide) (by decide), k24, l_signsOf (s := 16) (k := 16) (by decide) (by decide), k16, l_signsOf (s := 8) (k := 8) (by decide) (by decide), k8, l_signsOf (s := 0) (k := 0) (by decide) (by decide), k0, sX9_signsOf_5]
  simp only [sX9_signsOf_0, sX9_signsOf_1, sX9_signsOf_2, sX9_signsOf_4, sX9_signsOf_6, sX9_signsOf_9, sX9_signsOf_10, sX9_signsOf_11, sX9_signsOf_12, sX9_signsOf_13, sX9_signsOf_16, sX9_signsOf_17, sX9_signsOf_20, sX9_signsOf_21, sX9_signsOf_24, sX9_signsOf_25, sX9_signsOf_26, sX9_signsOf_27, sX9_signsOf_30, sX9_signsOf_33, sX9_signsOf_34, kI_i, kL_l, kV_v, am_rv_s, am_kl_i, am_kl_r, am_kl_n, am_kl_l, true_and, and_true, and_self, true_or, or_true, implies_true, forall_const, not_true_eq_false, not_false_eq_true, false_implies, true_implies, if_true, if_false, Bool.true_eq_false, Bool.false_eq_true, lm8]
  unfold bys
  simp only [List.length_append, ← nI_add, Int32.zero_add]
theorem lm_bytesIn {w s acc : Int32} {k : Nat} (hs : ((s &&& 31).toBitVec.smod 32).toNat = k) (hk : k = 24 ∨ k = 16 ∨ k = 8 ∨ k = 0) (h0 : ¬ s < 0) : ok d mX11_bytesIn 488 Q 488 0 0 5 [some (.int w), some (.int acc), some (.int s)] [] M = ok d mX11_bytesIn 488 Q 488 0 0 5 [some (.int w), some (.int (acc + nI (by1 (byt w k)).length)), some (.int (s + -8))] [] M := by
  have e1 := sh8 w (s &&& 31) k hs hk
  have b1 := byt_lt w k
  rw [sX11_bytesIn_5]
  unfold by1
  by_cases hc : byt w k = 0
  · simp only [sX11_bytesIn_0, sX11_bytesIn_1, sX11_bytesIn_2, sX11_bytesIn_4, sX11_bytesIn_6, sX11_bytesIn_9, sX11_bytesIn_10, sX11_bytesIn_11, sX11_bytesIn_12, sX11_bytesIn_13, sX11_bytesIn_16, sX11_bytesIn_17, sX11_bytesIn_20, sX11_bytesIn_21, sX11_bytesIn_24, sX11_bytesIn_25, sX11_bytesIn_26, sX11_bytesIn_27, sX11_bytesIn_30, sX11_bytesIn_33, sX11_bytesIn_34, kI_i, kL_l, kV_v, am_rv_s, am_kl_i, am_kl_r, am_kl_n, am_kl_l, true_and, and_true, and_self, true_or, or_true, implies_true, forall_const, not_true_eq_false, not_false_eq_true, false_implies, true_implies, if_true, if_false, Bool.true_eq_false, Bool.false_eq_true, h0, e1, nI_z (by omega : byt w k < 2 ^ 31), hc, nI_0]
    rfl
  · simp only [sX11_bytesIn_0, sX11_bytesIn_1, sX11_bytesIn_2, sX11_bytesIn_4, sX11_bytesIn_6, sX11_bytesIn_9, sX11_bytesIn_10, sX11_bytesIn_11, sX11_bytesIn_12, sX11_bytesIn_13, sX11_bytesIn_16, sX11_bytesIn_17, sX11_bytesIn_20, sX11_bytesIn_21, sX11_bytesIn_24, sX11_bytesIn_25, sX11_bytesIn_26, sX11_bytesIn_27, sX11_bytesIn_30, sX11_bytesIn_33, sX11_bytesIn_34, kI_i, kL_l, kV_v, am_rv_s, am_kl_i, am_kl_r, am_kl_n, am_kl_l, true_and, and_true, and_self, true_or, or_true, implies_true, forall_const, not_true_eq_false, not_false_eq_true, false_implies, true_implies, if_true, if_false, Bool.true_eq_false, Bool.false_eq_true, h0, e1, nI_z (by omega : byt w k < 2 ^ 31), hc]
    rfl
theorem m_bytesIn {w : Int32} : am_big (d + 1) mX11_bytesIn [.int w] 488 M Q = Q (some (.int (nI (bys w).length))) M := by
  rw [eX11_bytesIn]
  simp only [sX11_bytesIn_0, sX11_bytesIn_1, sX11_bytesIn_2, sX11_bytesIn_4, sX11_bytesIn_6, sX11_bytesIn_9, sX11_bytesIn_10, sX11_bytesIn_11, sX11_bytesIn_12, sX11_bytesIn_13, sX11_bytesIn_16, sX11_bytesIn_17, sX11_bytesIn_20, sX11_bytesIn_21, sX11_bytesIn_24, sX11_bytesIn_25, sX11_bytesIn_26, sX11_bytesIn_27, sX11_bytesIn_30, sX11_bytesIn_33, sX11_bytesIn_34, kI_i, kL_l, kV_v, am_rv_s, am_kl_i, am_kl_r, am_kl_n, am_kl_l, true_and, and_true, and_self, true_or, or_true, implies_true, forall_const, not_true_eq_false, not_false_eq_true, false_implies, true_implies, if_true, if_false, Bool.true_eq_false, Bool.false_eq_true]
  rw [lm_bytesIn (s := 24) (k := 24) (by decide) (by omega) (by decide), k24, lm_bytesIn (s := 16) (k := 16) (by decide) (by omega) (by decide), k16, lm_bytesIn (s := 8) (k := 8) (by decide) (by omega) (by decide), k8, lm_bytesIn (s := 0) (k := 0) (by decide) (by omega) (by decide), k0, sX11_bytesIn_5]
  simp only [sX11_bytesIn_0, sX11_bytesIn_1, sX11_bytesIn_2, sX11_bytesIn_4, sX11_bytesIn_6, sX11_bytesIn_9, sX11_bytesIn_10, sX11_bytesIn_11, sX11_bytesIn_12, sX11_bytesIn_13, sX11_bytesIn_16, sX11_bytesIn_17, sX11_bytesIn_20, sX11_bytesIn_21, sX11_bytesIn_24, sX11_bytesIn_25, sX11_bytesIn_26, sX11_bytesIn_27, sX11_bytesIn_30, sX11_bytesIn_33, sX11_bytesIn_34, kI_i, kL_l, kV_v, am_rv_s, am_kl_i, am_kl_r, am_kl_n, am_kl_l, true_and, and_true, and_self, true_or, or_true, implies_true, forall_const, not_true_eq_false, not_false_eq_true, false_implies, true_implies, if_true, if_false, Bool.true_eq_false, Bool.false_eq_true, lm8]
  unfold bys
  simp only [List.length_append, ← nI_add, Int32.zero_add]
/-- one sign more, or none where it is 0 -/
def apC (M : am_M) (n c : Nat) : am_M := if c = 0 then M else sI (sI M 2 n (nI c)) 1 1 (nI (n + 1))
def apM (M : am_M) (n c : Nat) : am_M := if c = 0 then M else sI (sI M 458 n (bsx c)) 457 6 (nI (n + 1))
theorem TC_ap {tp : List Nat} {c : Nat} (h : TC M tp) (hl : tp.length + (by1 c).length ≤ 240) : TC (apC M tp.length c) (tp ++ by1 c) := by
  unfold apC by1 at *
  split
  · simpa using h
  · rename_i hc
    obtain ⟨h1, h2, h3⟩ := h
    rw [if_neg hc] at hl
    refine ⟨?_, by simpa using hl, fun k hk => ?_⟩
    · rw [gI_e]; simp
    · rw [gI_o (by omega)]
      by_cases e : k < tp.length
      · rw [gI_j (by omega), h3 k e, List.getElem_append_left e]
      · have e2 : k = tp.length := by simp at hk; omega
        subst e2
        rw [gI_e]
        simp
theorem TM_ap {tp : List Nat} {c : Nat} (h : TM M tp) (hl : tp.length + (by1 c).length ≤ 240) : TM (apM M tp.length c) (tp ++ by1 c) := by
  unfold apM by1 at *
  split
  · simpa using h
  · rename_i hc
    obtain ⟨h1, h2, h3⟩ := h
    rw [if_neg hc] at hl
    refine ⟨?_, by simpa using hl, fun k hk => ?_⟩
    · rw [gI_e]; simp
    · rw [gI_o (by omega)]
      by_cases e : k < tp.length
      · rw [gI_j (by omega), h3 k e, List.getElem_append_left e]
      · have e2 : k = tp.length := by simp at hk; omega
        subst e2
        rw [gI_e]
        simp
def XT (b j : Nat) : Prop := (b = 1 ∧ j = 1) ∨ b = 2
def XTm (b j : Nat) : Prop := (b = 457 ∧ j = 6) ∨ b = 458
theorem Fw_apC {n c : Nat} : Fw XT M (apC M n c) := by
  unfold apC
  split
  · exact Fw.rf
  · exact (Fw.s (by unfold XT; omega)).tr (Fw.s (by unfold XT; omega))
theorem Fw_apM {n c : Nat} : Fw XTm M (apM M n c) := by
  unfold apM
  split
  · exact Fw.rf
  · exact (Fw.s (by unfold XTm; omega)).tr (Fw.s (by unfold XTm; omega))
/-- a step of append at a shift -/
theorem l_append {w s : Int32} {k : Nat} {l3 : Option Value} {tp : List Nat} (hW : WR M) (h : TC M tp) (hs : ((s.toUInt32 &&& Int32.toUInt32 31).toBitVec % 32).toNat = k) (hl : tp.length + (by1 (byt w k)).length ≤ 240) (h0 : ¬ s < 0) : ok d mX9_append 488 Q 488 0 0 3 [some (.ref 1), some (.int w), some (.int s), l3] [] M = ok d mX9_append 488 Q 488 0 0 3 [some (.ref 1), some (.int w), some (.int (s + -8)), some (.int (nI (byt w k)))] [] (apC M tp.length (byt w k)) := by
  have e1 := ush8 w s k hs
  have b1 := byt_lt w k
  have ln := h.2.1
  rw [sX9_append_3]
  simp only [sX9_append_0, sX9_append_2, sX9_append_4, sX9_append_7, sX9_append_8, sX9_append_9, sX9_append_10, sX9_append_13, sX9_append_14, sX9_append_15, sX9_append_16, sX9_append_19, sX9_append_20, sX9_append_23, sX9_append_26, sX9_append_29, sX9_append_30, sX9_append_33, sX9_append_34, sX9_append_37, sX9_append_38, sX9_append_39, sX9_append_40, sX9_append_41, sX9_append_44, sX9_append_45, sX9_append_46, sX9_append_49, sX9_append_52, sX9_append_55, kI_i, kL_l, kV_v, am_rv_s, am_kl_i, am_kl_r, am_kl_n, am_kl_l, true_and, and_true, and_self, true_or, or_true, implies_true, forall_const, not_true_eq_false, not_false_eq_true, false_implies, true_implies, if_true, if_false, Bool.true_eq_false, Bool.false_eq_true, h0, e1, nI_z (by omega : byt w k < 2 ^ 31)]
  unfold apC
  by_cases hc : byt w k = 0
  · simp only [hc, kI_i, kL_l, kV_v, am_rv_s, am_kl_i, am_kl_r, am_kl_n, am_kl_l, true_and, and_true, and_self, true_or, or_true, implies_true, forall_const, not_true_eq_false, not_false_eq_true, false_implies, true_implies, if_true, if_false, Bool.true_eq_false, Bool.false_eq_true]
  · have hl' : tp.length < 240 := by unfold by1 at hl; rw [if_neg hc] at hl; simp at hl; omega
    have e2 := li_le 240 240 (k := tp.length) rfl (by omega) (by omega)
    have e3 : (240 ≤ tp.length) = False := eq_false (by omega)
    simp (disch := (first | assumption | omega | decide)) only [sX9_append_0, sX9_append_2, sX9_append_4, sX9_append_7, sX9_append_8, sX9_append_9, sX9_append_10, sX9_append_13, sX9_append_14, sX9_append_15, sX9_append_16, sX9_append_19, sX9_append_20, sX9_append_23, sX9_append_26, sX9_append_29, sX9_append_30, sX9_append_33, sX9_append_34, sX9_append_37, sX9_append_38, sX9_append_39, sX9_append_40, sX9_append_41, sX9_append_44, sX9_append_45, sX9_append_46, sX9_append_49, sX9_append_52, sX9_append_55, hc, kI_i, kL_l, kV_v, am_rv_s, am_kl_i, am_kl_r, am_kl_n, am_kl_l, true_and, and_true, and_self, true_or, or_true, implies_true, forall_const, not_true_eq_false, not_false_eq_true, false_implies, true_implies, if_true, if_false, Bool.true_eq_false, Bool.false_eq_true, ob_1, in_2, iw_2, r_1_0, h.1, e2, e3, nI_clamp, gI_e, gI_o, gI_j, gR_sI, gL_sI, gI_sL, gR_sL, gL_e, gL_o, gL_j, gI_fl, gR_fl, gL_fl, gI_fn, gI_sR, gL_sR, gR_e, gR_o, gR_j, nI_1]
theorem TC_lt {tp : List Nat} (h : TC M tp) : tp.length ≤ 240 := h.2.1
theorem c_append {w : Int32} {tp : List Nat} (hW : WR M) (h : TC M tp) (hl : tp.length + (bys w).length ≤ 240) : ∃ M', (∀ d Q, am_big (d + 1) mX9_append [.ref 1, .int w] 488 M Q = Q none M') ∧ TC M' (tp ++ bys w) ∧ Fw XT M M' := by
  unfold bys at hl ⊢
  simp only [List.length_append] at hl
  have f1 := Fw_apC (M := M) (n := tp.length) (c := byt w 24)
  have t1 := TC_ap (c := byt w 24) h (by omega)
  have s1 := fun d Q l3 => l_append (d := d) (Q := Q) (w := w) (s := 24) (k := 24) (l3 := l3) hW h (by decide) (by omega) (by decide)
  generalize apC M tp.length (byt w 24) = M1 at f1 t1 s1
  have f2 := Fw_apC (M := M1) (n := (tp ++ by1 (byt w 24)).length) (c := byt w 16)
  have t2 := TC_ap (c := byt w 16) t1 (by simp; omega)
  have s2 := fun d Q l3 => l_append (d := d) (Q := Q) (w := w) (s := 16) (k := 16) (l3 := l3) (f1.2 hW) t1 (by decide) (by simp; omega) (by decide)
  generalize apC M1 (tp ++ by1 (byt w 24)).length (byt w 16) = M2 at f2 t2 s2
  have f3 := Fw_apC (M := M2) (n := (tp ++ by1 (byt w 24) ++ by1 (byt w 16)).length) (c := byt w 8)
  have t3 := TC_ap (c := byt w 8) t2 (by simp; omega)
  have s3 := fun d Q l3 => l_append (d := d) (Q := Q) (w := w) (s := 8) (k := 8) (l3 := l3) (f2.2 (f1.2 hW)) t2 (by decide) (by simp; omega) (by decide)
  generalize apC M2 (tp ++ by1 (byt w 24) ++ by1 (byt w 16)).length (byt w 8) = M3 at f3 t3 s3
  have f4 := Fw_apC (M := M3) (n := (tp ++ by1 (byt w 24) ++ by1 (byt w 16) ++ by1 (byt w 8)).length) (c := byt w 0)
  have t4 := TC_ap (c := byt w 0) t3 (by simp; omega)
  have s4 := fun d Q l3 => l_append (d := d) (Q := Q) (w := w) (s := 0) (k := 0) (l3 := l3) (f3.2 (f2.2 (f1.2 hW))) t3 (by decide) (by simp; omega) (by decide)
  generalize apC M3 (tp ++ by1 (byt w 24) ++ by1 (byt w 16) ++ by1 (byt w 8)).length (byt w 0) = M4 at f4 t4 s4
  refine ⟨M4, fun d Q => ?_, by simpa [List.append_assoc] using t4, ((f1.tr f2).tr f3).tr f4⟩
  rw [eX9_append]
  simp only [sX9_append_0, sX9_append_2, kI_i, kL_l, kV_v, am_rv_s, am_kl_i, am_kl_r, am_kl_n, am_kl_l, true_and, and_true, and_self, true_or, or_true, implies_true, forall_const, not_true_eq_false, not_false_eq_true, false_implies, true_implies, if_true, if_false, Bool.true_eq_false, Bool.false_eq_true]
  rw [s1, k24, s2, k16, s3, k8, s4, k0, sX9_append_3]
  simp only [sX9_append_0, sX9_append_2, sX9_append_4, sX9_append_7, sX9_append_8, sX9_append_9, sX9_append_10, sX9_append_13, sX9_append_14, sX9_append_15, sX9_append_16, sX9_append_19, sX9_append_20, sX9_append_23, sX9_append_26, sX9_append_29, sX9_append_30, sX9_append_33, sX9_append_34, sX9_append_37, sX9_append_38, sX9_append_39, sX9_append_40, sX9_append_41, sX9_append_44, sX9_append_45, sX9_append_46, sX9_append_49, sX9_append_52, sX9_append_55, kI_i, kL_l, kV_v, am_rv_s, am_kl_i, am_kl_r, am_kl_n, am_kl_l, true_and, and_true, and_self, true_or, or_true, implies_true, forall_const, not_true_eq_false, not_false_eq_true, false_implies, true_implies, if_true, if_false, Bool.true_eq_false, Bool.false_eq_true, lm8]
theorem bsx_i8 {c : Nat} : (bsx c).toInt8.toInt32 = bsx c := by unfold bsx; rw [Int8.toInt8_toInt32]
theorem lm_put {w s : Int32} {k : Nat} {tp : List Nat} (hW : WR M) (h : TM M tp) (hs : ((s &&& 31).toBitVec.smod 32).toNat = k) (hk : k = 24 ∨ k = 16 ∨ k = 8 ∨ k = 0) (hl : tp.length + (by1 (byt w k)).length ≤ 240) (h0 : ¬ s < 0) : ok d mX11_put 488 Q 488 0 0 3 [some (.ref 457), some (.int w), some (.int s)] [] M = ok d mX11_put 488 Q 488 0 0 3 [some (.ref 457), some (.int w), some (.int (s + -8))] [] (apM M tp.length (byt w k)) := by
  have e1 := sh8 w (s &&& 31) k hs hk
  have e4 := sb8 w (s &&& 31) k hs hk
  have b1 := byt_lt w k
  have ln := h.2.1
  rw [sX11_put_3]
  unfold apM
  by_cases hc : byt w k = 0
  · simp only [sX11_put_0, sX11_put_2, sX11_put_4, sX11_put_7, sX11_put_8, sX11_put_9, sX11_put_10, sX11_put_13, sX11_put_14, sX11_put_17, sX11_put_20, sX11_put_21, sX11_put_24, sX11_put_25, sX11_put_28, sX11_put_29, sX11_put_30, sX11_put_31, sX11_put_32, sX11_put_33, sX11_put_34, sX11_put_35, sX11_put_38, sX11_put_39, sX11_put_40, sX11_put_43, sX11_put_46, sX11_put_49, kI_i, kL_l, kV_v, am_rv_s, am_kl_i, am_kl_r, am_kl_n, am_kl_l, true_and, and_true, and_self, true_or, or_true, implies_true, forall_const, not_true_eq_false, not_false_eq_true, false_implies, true_implies, if_true, if_false, Bool.true_eq_false, Bool.false_eq_true, h0, e1, nI_z (by omega : byt w k < 2 ^ 31), hc, nI_0]
  · have hl' : tp.length < 240 := by unfold by1 at hl; rw [if_neg hc] at hl; simp at hl; omega
    simp (disch := (first | assumption | omega | decide)) only [sX11_put_0, sX11_put_2, sX11_put_4, sX11_put_7, sX11_put_8, sX11_put_9, sX11_put_10, sX11_put_13, sX11_put_14, sX11_put_17, sX11_put_20, sX11_put_21, sX11_put_24, sX11_put_25, sX11_put_28, sX11_put_29, sX11_put_30, sX11_put_31, sX11_put_32, sX11_put_33, sX11_put_34, sX11_put_35, sX11_put_38, sX11_put_39, sX11_put_40, sX11_put_43, sX11_put_46, sX11_put_49, hc, kI_i, kL_l, kV_v, am_rv_s, am_kl_i, am_kl_r, am_kl_n, am_kl_l, true_and, and_true, and_self, true_or, or_true, implies_true, forall_const, not_true_eq_false, not_false_eq_true, false_implies, true_implies, if_true, if_false, Bool.true_eq_false, Bool.false_eq_true, h0, e1, e4, nI_z (by omega : byt w k < 2 ^ 31), ob_457, iw_458, iwn_458, r_457_1, h.1, bsx_i8, nI_clamp, gI_e, gI_o, gI_j, gR_sI, gL_sI, gI_sL, gR_sL, gL_e, gL_o, gL_j, gI_fl, gR_fl, gL_fl, gI_fn, gI_sR, gL_sR, gR_e, gR_o, gR_j, nI_1, false_and, or_false]
theorem m_put {w : Int32} {tp : List Nat} (hW : WR M) (h : TM M tp) (hl : tp.length + (bys w).length ≤ 240) : ∃ M', (∀ d Q, am_big (d + 1) mX11_put [.ref 457, .int w] 488 M Q = Q none M') ∧ TM M' (tp ++ bys w) ∧ Fw XTm M M' := by
  unfold bys at hl ⊢
  simp only [List.length_append] at hl
  have f1 := Fw_apM (M := M) (n := tp.length) (c := byt w 24)
  have t1 := TM_ap (c := byt w 24) h (by omega)
  have s1 := fun d Q => lm_put (d := d) (Q := Q) (w := w) (s := 24) (k := 24) hW h (by decide) (by omega) (by omega) (by decide)
  generalize apM M tp.length (byt w 24) = M1 at f1 t1 s1
  have f2 := Fw_apM (M := M1) (n := (tp ++ by1 (byt w 24)).length) (c := byt w 16)
  have t2 := TM_ap (c := byt w 16) t1 (by simp; omega)
  have s2 := fun d Q => lm_put (d := d) (Q := Q) (w := w) (s := 16) (k := 16) (f1.2 hW) t1 (by decide) (by omega) (by simp; omega) (by decide)
  generalize apM M1 (tp ++ by1 (byt w 24)).length (byt w 16) = M2 at f2 t2 s2
  have f3 := Fw_apM (M := M2) (n := (tp ++ by1 (byt w 24) ++ by1 (byt w 16)).length) (c := byt w 8)
  have t3 := TM_ap (c := byt w 8) t2 (by simp; omega)
  have s3 := fun d Q => lm_put (d := d) (Q := Q) (w := w) (s := 8) (k := 8) (f2.2 (f1.2 hW)) t2 (by decide) (by omega) (by simp; omega) (by decide)
  generalize apM M2 (tp ++ by1 (byt w 24) ++ by1 (byt w 16)).length (byt w 8) = M3 at f3 t3 s3
  have f4 := Fw_apM (M := M3) (n := (tp ++ by1 (byt w 24) ++ by1 (byt w 16) ++ by1 (byt w 8)).length) (c := byt w 0)
  have t4 := TM_ap (c := byt w 0) t3 (by simp; omega)
  have s4 := fun d Q => lm_put (d := d) (Q := Q) (w := w) (s := 0) (k := 0) (f3.2 (f2.2 (f1.2 hW))) t3 (by decide) (by omega) (by simp; omega) (by decide)
  generalize apM M3 (tp ++ by1 (byt w 24) ++ by1 (byt w 16) ++ by1 (byt w 8)).length (byt w 0) = M4 at f4 t4 s4
  refine ⟨M4, fun d Q => ?_, by simpa [List.append_assoc] using t4, ((f1.tr f2).tr f3).tr f4⟩
  rw [eX11_put]
  simp only [sX11_put_0, sX11_put_2, kI_i, kL_l, kV_v, am_rv_s, am_kl_i, am_kl_r, am_kl_n, am_kl_l, true_and, and_true, and_self, true_or, or_true, implies_true, forall_const, not_true_eq_false, not_false_eq_true, false_implies, true_implies, if_true, if_false, Bool.true_eq_false, Bool.false_eq_true]
  rw [s1, k24, s2, k16, s3, k8, s4, k0, sX11_put_3]
  simp only [sX11_put_0, sX11_put_2, sX11_put_4, sX11_put_7, sX11_put_8, sX11_put_9, sX11_put_10, sX11_put_13, sX11_put_14, sX11_put_17, sX11_put_20, sX11_put_21, sX11_put_24, sX11_put_25, sX11_put_28, sX11_put_29, sX11_put_30, sX11_put_31, sX11_put_32, sX11_put_33, sX11_put_34, sX11_put_35, sX11_put_38, sX11_put_39, sX11_put_40, sX11_put_43, sX11_put_46, sX11_put_49, kI_i, kL_l, kV_v, am_rv_s, am_kl_i, am_kl_r, am_kl_n, am_kl_l, true_and, and_true, and_self, true_or, or_true, implies_true, forall_const, not_true_eq_false, not_false_eq_true, false_implies, true_implies, if_true, if_false, Bool.true_eq_false, Bool.false_eq_true, lm8]
def fed (a b c e f : Int32) : List Nat := bys a ++ bys b ++ bys c ++ bys e ++ bys f
def feedS (tp : List Nat) (a b c e f : Int32) : Int32 × List Nat := if 240 < tp.length + (fed a b c e f).length then (-1, tp) else (nI (tp.length + (fed a b c e f).length), tp ++ fed a b c e f)
theorem c_feed {a b c e f : Int32} {tp : List Nat} (hW : WR M) (h : TC M tp) : ∃ M', (∀ d Q, am_big (d + 2) mX10_feed [.ref 0, .int a, .int b, .int c, .int e, .int f] 488 M Q = Q (some (.int (feedS tp a b c e f).1)) M') ∧ TC M' (feedS tp a b c e f).2 ∧ Fw XT M M' := by
  have ln := h.2.1
  have n1 := bys_len a
  have n2 := bys_len b
  have n3 := bys_len c
  have n4 := bys_len e
  have n5 := bys_len f
  have el : (fed a b c e f).length = (bys a).length + (bys b).length + (bys c).length + (bys e).length + (bys f).length := by unfold fed; simp only [List.length_append]
  unfold feedS
  by_cases hb : 240 < tp.length + (fed a b c e f).length
  · refine ⟨M, fun d Q => ?_, by simpa [hb] using h, Fw.rf⟩
    have e1 : (nI (tp.length + (fed a b c e f).length) ≤ 240) = False := by
      rw [show (240 : Int32) = nI 240 from rfl, nI_leE (by omega) (by omega)]; exact eq_false (by omega)
    rw [if_pos hb, eX10_feed]
    rw [el] at e1
    simp (disch := (first | assumption | omega | decide)) only [sX10_feed_0, sX10_feed_1, sX10_feed_4, sX10_feed_5, sX10_feed_8, sX10_feed_9, sX10_feed_10, sX10_feed_13, sX10_feed_14, sX10_feed_16, sX10_feed_19, sX10_feed_20, sX10_feed_22, sX10_feed_25, sX10_feed_26, sX10_feed_28, sX10_feed_29, sX10_feed_32, sX10_feed_35, sX10_feed_37, sX10_feed_38, sX10_feed_41, sX10_feed_44, sX10_feed_45, sX10_feed_46, sX10_feed_47, sX10_feed_50, sX10_feed_51, sX10_feed_54, sX10_feed_55, sX10_feed_58, sX10_feed_59, sX10_feed_62, sX10_feed_63, sX10_feed_66, sX10_feed_67, sX10_feed_70, sX10_feed_71, sX10_feed_74, sX10_feed_76, sX10_feed_79, sX10_feed_80, sX10_feed_83, sX10_feed_85, sX10_feed_88, sX10_feed_89, sX10_feed_92, sX10_feed_95, kI_i, kL_l, kV_v, am_rv_s, am_kl_i, am_kl_r, am_kl_n, am_kl_l, true_and, and_true, and_self, true_or, or_true, implies_true, forall_const, not_true_eq_false, not_false_eq_true, false_implies, true_implies, if_true, if_false, Bool.true_eq_false, Bool.false_eq_true, c_signsOf, ob_0, ob_1, r_0_0, r_0_1, r_0_2, r_0_3, r_0_5, r_0_6, r_0_7, r_0_8, r_0_10, r_0_11, r_0_12, r_0_13, r_0_14, r_0_15, ob_0, r_1_0, ob_1, h.1, nI_add, e1]
  · have ht : tp.length + (fed a b c e f).length ≤ 240 := by omega
    rw [el] at ht
    obtain ⟨M1, q1, t1, f1⟩ := c_append (w := a) hW h (by omega)
    obtain ⟨M2, q2, t2, f2⟩ := c_append (w := b) (f1.2 hW) t1 (by simp only [List.length_append]; omega)
    have w2 := f2.2 (f1.2 hW)
    obtain ⟨M3, q3, t3, f3⟩ := c_append (w := c) w2 t2 (by simp only [List.length_append]; omega)
    have w3 := f3.2 w2
    obtain ⟨M4, q4, t4, f4⟩ := c_append (w := e) w3 t3 (by simp only [List.length_append]; omega)
    have w4 := f4.2 w3
    obtain ⟨M5, q5, t5, f5⟩ := c_append (w := f) w4 t4 (by simp only [List.length_append]; omega)
    have w5 := f5.2 w4
    have w1 := f1.2 hW
    refine ⟨M5, fun d Q => ?_, ?_, (((f1.tr f2).tr f3).tr f4).tr f5⟩
    · have e1 : (nI (tp.length + (fed a b c e f).length) ≤ 240) = True := by
        rw [show (240 : Int32) = nI 240 from rfl, nI_leE (by omega) (by omega)]; exact eq_true (by omega)
      rw [el] at e1
      rw [if_neg hb, eX10_feed]
      simp (disch := (first | assumption | omega | decide)) only [sX10_feed_0, sX10_feed_1, sX10_feed_4, sX10_feed_5, sX10_feed_8, sX10_feed_9, sX10_feed_10, sX10_feed_13, sX10_feed_14, sX10_feed_16, sX10_feed_19, sX10_feed_20, sX10_feed_22, sX10_feed_25, sX10_feed_26, sX10_feed_28, sX10_feed_29, sX10_feed_32, sX10_feed_35, sX10_feed_37, sX10_feed_38, sX10_feed_41, sX10_feed_44, sX10_feed_45, sX10_feed_46, sX10_feed_47, sX10_feed_50, sX10_feed_51, sX10_feed_54, sX10_feed_55, sX10_feed_58, sX10_feed_59, sX10_feed_62, sX10_feed_63, sX10_feed_66, sX10_feed_67, sX10_feed_70, sX10_feed_71, sX10_feed_74, sX10_feed_76, sX10_feed_79, sX10_feed_80, sX10_feed_83, sX10_feed_85, sX10_feed_88, sX10_feed_89, sX10_feed_92, sX10_feed_95, kI_i, kL_l, kV_v, am_rv_s, am_kl_i, am_kl_r, am_kl_n, am_kl_l, true_and, and_true, and_self, true_or, or_true, implies_true, forall_const, not_true_eq_false, not_false_eq_true, false_implies, true_implies, if_true, if_false, Bool.true_eq_false, Bool.false_eq_true, c_signsOf, ob_0, ob_1, r_0_0, r_0_1, r_0_2, r_0_3, r_0_5, r_0_6, r_0_7, r_0_8, r_0_10, r_0_11, r_0_12, r_0_13, r_0_14, r_0_15, ob_0, r_1_0, ob_1, h.1, nI_add, e1, q1, q2, q3, q4, q5, t5.1]
      rw [el]
      simp only [List.length_append]
      congr 4
      omega
    · rw [if_neg hb]
      unfold fed
      simpa only [List.append_assoc] using t5
theorem TM_th {v : Int32} {tp : List Nat} (h : TM M tp) : TM (sI M 457 0 v) tp := ⟨by rw [gI_j (by omega)]; exact h.1, h.2.1, fun k hk => by rw [gI_o (by omega)]; exact h.2.2 k hk⟩
theorem m_feed {a b c e f : Int32} {tp : List Nat} (hW : WR M) (h : TM M tp) : ∃ M', (∀ d Q, am_big (d + 2) mX11_feed [.ref 457, .int a, .int b, .int c, .int e, .int f] 488 M Q = Q (some (.int (feedS tp a b c e f).1)) M') ∧ TM M' (feedS tp a b c e f).2 ∧ Fw (fun b j => XTm b j ∨ (b = 457 ∧ j = 0)) M M' := by
  have h' := h
  replace h := TM_th (v := 0) h
  have f0 : Fw (fun b j => XTm b j ∨ (b = 457 ∧ j = 0)) M (sI M 457 0 0) := Fw.s (Or.inr ⟨rfl, rfl⟩)
  have w0 : WR (sI M 457 0 0) := hW
  have ln := h.2.1
  have n1 := bys_len a
  have n2 := bys_len b
  have n3 := bys_len c
  have n4 := bys_len e
  have n5 := bys_len f
  have el : (fed a b c e f).length = (bys a).length + (bys b).length + (bys c).length + (bys e).length + (bys f).length := by unfold fed; simp only [List.length_append]
  unfold feedS
  by_cases hb : 240 < tp.length + (fed a b c e f).length
  · refine ⟨sI M 457 0 0, fun d Q => ?_, by simpa [hb] using h, f0⟩
    have e1 : (nI (tp.length + (fed a b c e f).length) ≤ 240) = False := by
      rw [show (240 : Int32) = nI 240 from rfl, nI_leE (by omega) (by omega)]; exact eq_false (by omega)
    rw [if_pos hb, eX11_feed]
    rw [el] at e1
    simp (disch := (first | assumption | omega | decide)) only [sX11_feed_0, sX11_feed_1, sX11_feed_2, sX11_feed_5, sX11_feed_6, sX11_feed_9, sX11_feed_10, sX11_feed_13, sX11_feed_14, sX11_feed_15, sX11_feed_18, sX11_feed_19, sX11_feed_20, sX11_feed_23, sX11_feed_24, sX11_feed_26, sX11_feed_29, sX11_feed_30, sX11_feed_32, sX11_feed_35, sX11_feed_36, sX11_feed_39, sX11_feed_42, sX11_feed_43, sX11_feed_44, sX11_feed_45, sX11_feed_46, sX11_feed_49, sX11_feed_50, sX11_feed_51, sX11_feed_54, sX11_feed_55, sX11_feed_56, sX11_feed_59, sX11_feed_60, sX11_feed_62, sX11_feed_65, sX11_feed_66, sX11_feed_68, sX11_feed_71, sX11_feed_72, sX11_feed_75, kI_i, kL_l, kV_v, am_rv_s, am_kl_i, am_kl_r, am_kl_n, am_kl_l, true_and, and_true, and_self, true_or, or_true, implies_true, forall_const, not_true_eq_false, not_false_eq_true, false_implies, true_implies, if_true, if_false, Bool.true_eq_false, Bool.false_eq_true, m_bytesIn, ob_457, h.1, nI_add, Nat.add_assoc] at e1 ⊢
    simp only [e1, kI_i, kL_l, kV_v, am_rv_s, am_kl_i, am_kl_r, am_kl_n, am_kl_l, true_and, and_true, and_self, true_or, or_true, implies_true, forall_const, not_true_eq_false, not_false_eq_true, false_implies, true_implies, if_true, if_false, Bool.true_eq_false, Bool.false_eq_true, sX11_feed_0, sX11_feed_1, sX11_feed_2, sX11_feed_5, sX11_feed_6, sX11_feed_9, sX11_feed_10, sX11_feed_13, sX11_feed_14, sX11_feed_15, sX11_feed_18, sX11_feed_19, sX11_feed_20, sX11_feed_23, sX11_feed_24, sX11_feed_26, sX11_feed_29, sX11_feed_30, sX11_feed_32, sX11_feed_35, sX11_feed_36, sX11_feed_39, sX11_feed_42, sX11_feed_43, sX11_feed_44, sX11_feed_45, sX11_feed_46, sX11_feed_49, sX11_feed_50, sX11_feed_51, sX11_feed_54, sX11_feed_55, sX11_feed_56, sX11_feed_59, sX11_feed_60, sX11_feed_62, sX11_feed_65, sX11_feed_66, sX11_feed_68, sX11_feed_71, sX11_feed_72, sX11_feed_75]
  · have ht : tp.length + (fed a b c e f).length ≤ 240 := by omega
    rw [el] at ht
    obtain ⟨M1, q1, t1, f1⟩ := m_put (w := a) w0 h (by omega)
    have w1 := f1.2 w0
    obtain ⟨M2, q2, t2, f2⟩ := m_put (w := b) w1 t1 (by simp only [List.length_append]; omega)
    have w2 := f2.2 w1
    obtain ⟨M3, q3, t3, f3⟩ := m_put (w := c) w2 t2 (by simp only [List.length_append]; omega)
    have w3 := f3.2 w2
    obtain ⟨M4, q4, t4, f4⟩ := m_put (w := e) w3 t3 (by simp only [List.length_append]; omega)
    have w4 := f4.2 w3
    obtain ⟨M5, q5, t5, f5⟩ := m_put (w := f) w4 t4 (by simp only [List.length_append]; omega)
    refine ⟨M5, fun d Q => ?_, ?_, f0.tr (((((f1.tr f2).tr f3).tr f4).tr f5).mo (fun _ _ q => Or.inl q))⟩
    · have e1 : (nI (tp.length + (fed a b c e f).length) ≤ 240) = True := by
        rw [show (240 : Int32) = nI 240 from rfl, nI_leE (by omega) (by omega)]; exact eq_true (by omega)
      rw [el] at e1
      rw [if_neg hb, eX11_feed]
      simp (disch := (first | assumption | omega | decide)) only [sX11_feed_0, sX11_feed_1, sX11_feed_2, sX11_feed_5, sX11_feed_6, sX11_feed_9, sX11_feed_10, sX11_feed_13, sX11_feed_14, sX11_feed_15, sX11_feed_18, sX11_feed_19, sX11_feed_20, sX11_feed_23, sX11_feed_24, sX11_feed_26, sX11_feed_29, sX11_feed_30, sX11_feed_32, sX11_feed_35, sX11_feed_36, sX11_feed_39, sX11_feed_42, sX11_feed_43, sX11_feed_44, sX11_feed_45, sX11_feed_46, sX11_feed_49, sX11_feed_50, sX11_feed_51, sX11_feed_54, sX11_feed_55, sX11_feed_56, sX11_feed_59, sX11_feed_60, sX11_feed_62, sX11_feed_65, sX11_feed_66, sX11_feed_68, sX11_feed_71, sX11_feed_72, sX11_feed_75, kI_i, kL_l, kV_v, am_rv_s, am_kl_i, am_kl_r, am_kl_n, am_kl_l, true_and, and_true, and_self, true_or, or_true, implies_true, forall_const, not_true_eq_false, not_false_eq_true, false_implies, true_implies, if_true, if_false, Bool.true_eq_false, Bool.false_eq_true, m_bytesIn, ob_457, h.1, nI_add, Nat.add_assoc] at e1 ⊢
      simp (disch := (first | assumption | omega | decide)) only [e1, sX11_feed_0, sX11_feed_1, sX11_feed_2, sX11_feed_5, sX11_feed_6, sX11_feed_9, sX11_feed_10, sX11_feed_13, sX11_feed_14, sX11_feed_15, sX11_feed_18, sX11_feed_19, sX11_feed_20, sX11_feed_23, sX11_feed_24, sX11_feed_26, sX11_feed_29, sX11_feed_30, sX11_feed_32, sX11_feed_35, sX11_feed_36, sX11_feed_39, sX11_feed_42, sX11_feed_43, sX11_feed_44, sX11_feed_45, sX11_feed_46, sX11_feed_49, sX11_feed_50, sX11_feed_51, sX11_feed_54, sX11_feed_55, sX11_feed_56, sX11_feed_59, sX11_feed_60, sX11_feed_62, sX11_feed_65, sX11_feed_66, sX11_feed_68, sX11_feed_71, sX11_feed_72, sX11_feed_75, kI_i, kL_l, kV_v, am_rv_s, am_kl_i, am_kl_r, am_kl_n, am_kl_l, true_and, and_true, and_self, true_or, or_true, implies_true, forall_const, not_true_eq_false, not_false_eq_true, false_implies, true_implies, if_true, if_false, Bool.true_eq_false, Bool.false_eq_true, ob_457, q1, q2, q3, q4, q5, t5.1]
      rw [el]
      simp only [List.length_append]
      congr 4
      omega
    · rw [if_neg hb]
      unfold fed
      simpa only [List.append_assoc] using t5
theorem TC_end {tp : List Nat} {n : Nat} (h : TC M tp) (hn : n ≤ tp.length) : TC (sI M 1 1 (nI n)) (tp.take n) := by
  obtain ⟨h1, h2, h3⟩ := h
  have e : (tp.take n).length = n := by simp; omega
  refine ⟨by rw [gI_e, e], by omega, fun k hk => ?_⟩
  rw [gI_o (by omega), h3 k (by omega), List.getElem_take]
theorem TM_end {tp : List Nat} {n : Nat} (h : TM M tp) (hn : n ≤ tp.length) : TM (sI M 457 6 (nI n)) (tp.take n) := by
  obtain ⟨h1, h2, h3⟩ := h
  have e : (tp.take n).length = n := by simp; omega
  refine ⟨by rw [gI_e, e], by omega, fun k hk => ?_⟩
  rw [gI_o (by omega), h3 k (by omega), List.getElem_take]
def endS (tp : List Nat) (n : Int32) : Bool × List Nat := if n < 0 ∨ nI tp.length < n then (false, tp) else (true, tp.take n.toNatClampNeg)
theorem endS_ok {tp : List Nat} {n : Int32} (hl : tp.length ≤ 240) (h : ¬ (n < 0 ∨ nI tp.length < n)) : ∃ k, n = nI k ∧ k ≤ tp.length := by
  obtain ⟨k, hk, e⟩ := nI_of (fun q => h (Or.inl q))
  refine ⟨k, e, ?_⟩
  have h2 : ¬ nI tp.length < n := fun q => h (Or.inr q)
  rw [e, nI_ltE (by omega) hk] at h2
  omega
theorem c_end {n : Int32} {tp : List Nat} (hW : WR M) (h : TC M tp) : ∃ M', (∀ d Q, am_big (d + 1) mX10_end [.ref 0, .int n] 488 M Q = Q (some (.int (bz (endS tp n).1))) M') ∧ TC M' (endS tp n).2 ∧ Fw XT M M' := by
  have hl := h.2.1
  unfold endS
  by_cases hb : n < 0 ∨ nI tp.length < n
  · refine ⟨M, fun d Q => ?_, by simpa [hb] using h, Fw.rf⟩
    rw [if_pos hb, eX10_end]
    by_cases h1 : n < 0
    · simp (disch := (first | assumption | omega | decide)) only [sX10_end_0, sX10_end_1, sX10_end_4, sX10_end_5, sX10_end_6, sX10_end_9, sX10_end_12, sX10_end_15, sX10_end_16, sX10_end_17, sX10_end_18, sX10_end_21, sX10_end_22, sX10_end_25, sX10_end_26, kI_i, kL_l, kV_v, am_rv_s, am_kl_i, am_kl_r, am_kl_n, am_kl_l, true_and, and_true, and_self, true_or, or_true, implies_true, forall_const, not_true_eq_false, not_false_eq_true, false_implies, true_implies, if_true, if_false, Bool.true_eq_false, Bool.false_eq_true, ob_0, ob_1, r_0_0, r_0_1, r_0_2, r_0_3, r_0_5, r_0_6, r_0_7, r_0_8, r_0_10, r_0_11, r_0_12, r_0_13, r_0_14, r_0_15, ob_0, r_1_0, ob_1, h.1, h1, bz_f]
    · have h2 : (n ≤ nI tp.length) = False := eq_false (Int32.not_le.mpr (hb.resolve_left h1))
      simp (disch := (first | assumption | omega | decide)) only [sX10_end_0, sX10_end_1, sX10_end_4, sX10_end_5, sX10_end_6, sX10_end_9, sX10_end_12, sX10_end_15, sX10_end_16, sX10_end_17, sX10_end_18, sX10_end_21, sX10_end_22, sX10_end_25, sX10_end_26, kI_i, kL_l, kV_v, am_rv_s, am_kl_i, am_kl_r, am_kl_n, am_kl_l, true_and, and_true, and_self, true_or, or_true, implies_true, forall_const, not_true_eq_false, not_false_eq_true, false_implies, true_implies, if_true, if_false, Bool.true_eq_false, Bool.false_eq_true, ob_0, ob_1, r_0_0, r_0_1, r_0_2, r_0_3, r_0_5, r_0_6, r_0_7, r_0_8, r_0_10, r_0_11, r_0_12, r_0_13, r_0_14, r_0_15, ob_0, r_1_0, ob_1, h.1, h1, h2, bz_f]
  · obtain ⟨k, rfl, hk⟩ := endS_ok hl hb
    refine ⟨sI M 1 1 (nI k), fun d Q => ?_, ?_, Fw.s (by unfold XT; omega)⟩
    · rw [if_neg hb, eX10_end]
      have h1 : nI k < 0 ↔ False := iff_of_false (fun q => hb (Or.inl q)) id
      have h2 : (nI k ≤ nI tp.length) = True := by rw [nI_leE (by omega) (by omega)]; exact eq_true hk
      simp (disch := (first | assumption | omega | decide)) only [sX10_end_0, sX10_end_1, sX10_end_4, sX10_end_5, sX10_end_6, sX10_end_9, sX10_end_12, sX10_end_15, sX10_end_16, sX10_end_17, sX10_end_18, sX10_end_21, sX10_end_22, sX10_end_25, sX10_end_26, kI_i, kL_l, kV_v, am_rv_s, am_kl_i, am_kl_r, am_kl_n, am_kl_l, true_and, and_true, and_self, true_or, or_true, implies_true, forall_const, not_true_eq_false, not_false_eq_true, false_implies, true_implies, if_true, if_false, Bool.true_eq_false, Bool.false_eq_true, ob_0, ob_1, r_0_0, r_0_1, r_0_2, r_0_3, r_0_5, r_0_6, r_0_7, r_0_8, r_0_10, r_0_11, r_0_12, r_0_13, r_0_14, r_0_15, ob_0, r_1_0, ob_1, h.1, h1, h2, bz_t]
    · rw [if_neg hb]
      show TC _ (List.take (nI k).toNatClampNeg tp)
      rw [nI_clamp (by omega)]
      exact TC_end h hk
theorem m_end {n : Int32} {tp : List Nat} (hW : WR M) (h : TM M tp) : ∃ M', (∀ d Q, am_big (d + 1) mX11_end [.ref 457, .int n] 488 M Q = Q (some (.int (bz (endS tp n).1))) M') ∧ TM M' (endS tp n).2 ∧ Fw (fun b j => XTm b j ∨ (b = 457 ∧ j = 0)) M M' := by
  replace h := TM_th (v := 0) h
  have f0 : Fw (fun b j => XTm b j ∨ (b = 457 ∧ j = 0)) M (sI M 457 0 0) := Fw.s (Or.inr ⟨rfl, rfl⟩)
  have hl := h.2.1
  unfold endS
  by_cases hb : n < 0 ∨ nI tp.length < n
  · refine ⟨sI M 457 0 0, fun d Q => ?_, by simpa [hb] using h, f0⟩
    rw [if_pos hb, eX11_end]
    by_cases h1 : n < 0
    · simp (disch := (first | assumption | omega | decide)) only [sX11_end_0, sX11_end_1, sX11_end_2, sX11_end_5, sX11_end_6, sX11_end_9, sX11_end_10, sX11_end_11, sX11_end_14, sX11_end_17, sX11_end_18, sX11_end_19, sX11_end_20, sX11_end_21, sX11_end_24, sX11_end_25, kI_i, kL_l, kV_v, am_rv_s, am_kl_i, am_kl_r, am_kl_n, am_kl_l, true_and, and_true, and_self, true_or, or_true, implies_true, forall_const, not_true_eq_false, not_false_eq_true, false_implies, true_implies, if_true, if_false, Bool.true_eq_false, Bool.false_eq_true, ob_457, h.1, h1, bz_f]
    · have h2 : (n ≤ nI tp.length) = False := eq_false (Int32.not_le.mpr (hb.resolve_left h1))
      simp (disch := (first | assumption | omega | decide)) only [sX11_end_0, sX11_end_1, sX11_end_2, sX11_end_5, sX11_end_6, sX11_end_9, sX11_end_10, sX11_end_11, sX11_end_14, sX11_end_17, sX11_end_18, sX11_end_19, sX11_end_20, sX11_end_21, sX11_end_24, sX11_end_25, kI_i, kL_l, kV_v, am_rv_s, am_kl_i, am_kl_r, am_kl_n, am_kl_l, true_and, and_true, and_self, true_or, or_true, implies_true, forall_const, not_true_eq_false, not_false_eq_true, false_implies, true_implies, if_true, if_false, Bool.true_eq_false, Bool.false_eq_true, ob_457, h.1, h1, h2, bz_f]
  · obtain ⟨k, rfl, hk⟩ := endS_ok hl hb
    refine ⟨sI (sI M 457 0 0) 457 6 (nI k), fun d Q => ?_, ?_, f0.tr (Fw.s (by unfold XTm; omega))⟩
    · rw [if_neg hb, eX11_end]
      have h1 : nI k < 0 ↔ False := iff_of_false (fun q => hb (Or.inl q)) id
      have h2 : (nI k ≤ nI tp.length) = True := by rw [nI_leE (by omega) (by omega)]; exact eq_true hk
      simp (disch := (first | assumption | omega | decide)) only [sX11_end_0, sX11_end_1, sX11_end_2, sX11_end_5, sX11_end_6, sX11_end_9, sX11_end_10, sX11_end_11, sX11_end_14, sX11_end_17, sX11_end_18, sX11_end_19, sX11_end_20, sX11_end_21, sX11_end_24, sX11_end_25, kI_i, kL_l, kV_v, am_rv_s, am_kl_i, am_kl_r, am_kl_n, am_kl_l, true_and, and_true, and_self, true_or, or_true, implies_true, forall_const, not_true_eq_false, not_false_eq_true, false_implies, true_implies, if_true, if_false, Bool.true_eq_false, Bool.false_eq_true, ob_457, h.1, h1, h2, bz_t]
    · rw [if_neg hb]
      show TM _ (List.take (nI k).toNatClampNeg tp)
      rw [nI_clamp (by omega)]
      exact TM_end h hk
end
