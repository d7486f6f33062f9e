/-- a law at a: its shape, its signs -/
def LWs (M : am_M) (a : Nat) : Prop := a + 2 < 488 ∧ am_T a = (0, 2) ∧ am_T (a + 1) = (1, 480) ∧ am_T (a + 2) = (1, 64) ∧ gR M a 0 = some (a + 1) ∧ gR M a 1 = some (a + 2)
def LW (M : am_M) (a : Nat) (c : List Int32) : Prop := LWs M a ∧ gI M a 2 = nI c.length ∧ c.length ≤ 480 ∧ ∀ k (h : k < c.length), gI M (a + 1) k = c[k]
theorem LWs_i {M : am_M} {i : Nat} (h : WR M) (hi : i < 4) : LWs M (395 + 3 * i) := by
  have : i = 0 ∨ i = 1 ∨ i = 2 ∨ i = 3 := by omega
  rcases this with rfl | rfl | rfl | rfl <;> exact ⟨by omega, rfl, rfl, rfl, h _ _ _ rfl, h _ _ _ rfl⟩
/-- f holds the stack st, the top first -/
def SK (f : Nat → Int32) (st : List Int32) : Prop := ∀ k (h : k < st.length), f (st.length - 1 - k) = st[k]
theorem SK_push {f : Nat → Int32} {st : List Int32} {v : Int32} (h : SK f st) : SK (up f st.length v) (v :: st) := by
  intro k hk
  cases k with
  | zero => show up f st.length v (st.length + 1 - 1 - 0) = v; exact up_e _ _ _
  | succ k =>
    have hk' : k < st.length := by simpa using hk
    show up f st.length v (st.length + 1 - 1 - (k + 1)) = st[k]
    rw [up_n (by omega), ← h k hk']
    congr 1
    omega
theorem SK_tl {f : Nat → Int32} {st : List Int32} {v : Int32} (h : SK f (v :: st)) : f st.length = v ∧ SK f st := by
  refine ⟨h 0 (by simp), fun k hk => ?_⟩
  have := h (k + 1) (by simpa using hk)
  rw [show (v :: st).length - 1 - (k + 1) = st.length - 1 - k by simp only [List.length_cons]; omega] at this
  exact this
theorem stB_len {L : Int32 → Int32} {B : Nat} {c : Int32} {st st' : List Int32} (h : stB L B c st = some st') (hs : st.length ≤ B) : st'.length ≤ B := by
  unfold stB at h
  split at h
  · split at h
    · rename_i hc; cases h; simp only [List.length_cons]; omega
    · cases h
  · split at h
    · cases st with
      | nil => cases h
      | cons a r =>
        simp only at h
        split at h
        · cases h; simpa using hs
        · cases h
    · cases st with
      | nil => cases h
      | cons b r =>
        cases r with
        | nil => cases h
        | cons a r =>
          simp only at h
          split at h
          · cases h; simp only [List.length_cons] at hs ⊢; omega
          · cases h
section
variable {M : am_M} {a : Nat} {L : Int32 → Int32} {full : List Int32}
theorem w_step {i : Nat} {c : Int32} {st st' : List Int32} {f : Nat → Int32} {l4 : Option Value} (hl : LW M a full) (hL : ∀ x, x < 6 → L (nI x) = gI M 394 x ∧ Bd (gI M 394 x)) (ha : a + 2 < 394 ∨ 394 < a) (hi : i < full.length) (hc : full[i] = c) (hB : ∀ v, v ∈ st → Bd v) (hS : SK f st) (hn : st.length ≤ 64) (h : stB L 64 c st = some st') : ∃ f', (∀ d (Q : am_Q), 2 ≤ d → ok d mX2_worth 488 Q 488 0 0 4 [some (.ref a), some (.ref 394), some (.int (nI st.length)), some (.int (nI i)), l4] [] (fl M (a + 2) 64 f) = ok d mX2_worth 488 Q 488 0 0 4 [some (.ref a), some (.ref 394), some (.int (nI st'.length)), some (.int (nI (i + 1))), some (.int c)] [] (fl M (a + 2) 64 f')) ∧ SK f' st' ∧ (∀ v, v ∈ st' → Bd v) := by
  obtain ⟨⟨l1, l2, l3, l4', l5, l6⟩, l7, l8, l9⟩ := hl
  have hob := ob (a := a) (c := 2) (by omega) l2
  have e0 : (nI full.length ≤ nI i) = False := by rw [nI_leE (by omega) (by omega)]; exact eq_false (by omega)
  have g1 : ∀ f, gI (fl M (a + 2) 64 f) a 2 = nI full.length := fun f => by rw [gI_fn (by omega), l7]
  have g2 : ∀ f, gI (fl M (a + 2) 64 f) (a + 1) i = c := fun f => by rw [gI_fn (by omega), l9 i hi, hc]
  have i1 : ∀ N, am_in 488 N (a + 1) 1 (nI i) = True := fun N => in1 (by omega) l3 (by omega) (by omega)
  have g3 : ∀ f k, k < 64 → gI (fl M (a + 2) 64 f) (a + 2) k = f k := fun f k hk => gI_fl hk
  have i2 : ∀ N k, k < 64 → am_in 488 N (a + 2) 1 (nI k) = True := fun N k hk => in1 (by omega) l4' hk (by omega)
  have i3 : ∀ k, k < 64 → am_iw 488 (a + 2) 1 (nI k) = True := fun k hk => iw (by omega) l4' hk (by omega)
  have s1 : ∀ f k v, k < 64 → sI (fl M (a + 2) 64 f) (a + 2) k v = fl M (a + 2) 64 (up f k v) := fun f k v hk => sI_fl hk
  unfold stB at h
  by_cases c1 : c < 20000
  · rw [if_pos c1] at h
    have c1' : (20000 ≤ c) = False := eq_false (Int32.not_le.mpr c1)
    by_cases c2 : st.length < 64 ∧ 0 ≤ c ∧ c < 10006
    · rw [if_pos c2] at h
      cases h
      obtain ⟨c2, c3, c4⟩ := c2
      have e64 : (nI st.length < 64) = True := by rw [show (64 : Int32) = nI 64 from rfl, nI_ltE (by omega) (by omega)]; exact eq_true c2
      by_cases c5 : c < 10000
      · have c5' : (10000 ≤ c) = False := eq_false (Int32.not_le.mpr c5)
        rw [if_pos c5]
        refine ⟨up f st.length c, fun d Q hd => ?_, SK_push hS, fun v hv => ?_⟩
        · rw [sX2_worth_4]
          simp (disch := (first | assumption | omega | decide)) only [sX2_worth_0, sX2_worth_1, sX2_worth_2, sX2_worth_3, sX2_worth_5, sX2_worth_6, sX2_worth_9, sX2_worth_12, sX2_worth_13, sX2_worth_16, sX2_worth_17, sX2_worth_18, sX2_worth_20, sX2_worth_22, sX2_worth_25, sX2_worth_28, sX2_worth_29, sX2_worth_31, sX2_worth_34, sX2_worth_35, sX2_worth_36, sX2_worth_37, sX2_worth_40, sX2_worth_41, sX2_worth_43, sX2_worth_46, sX2_worth_49, sX2_worth_51, sX2_worth_54, sX2_worth_55, sX2_worth_57, sX2_worth_60, sX2_worth_61, sX2_worth_64, sX2_worth_65, sX2_worth_68, sX2_worth_71, sX2_worth_72, sX2_worth_75, sX2_worth_76, sX2_worth_77, sX2_worth_79, sX2_worth_82, sX2_worth_85, sX2_worth_86, sX2_worth_89, sX2_worth_90, sX2_worth_91, sX2_worth_92, sX2_worth_93, sX2_worth_94, sX2_worth_96, sX2_worth_99, sX2_worth_102, sX2_worth_103, sX2_worth_106, sX2_worth_107, sX2_worth_108, sX2_worth_109, sX2_worth_110, sX2_worth_111, sX2_worth_114, sX2_worth_115, sX2_worth_116, sX2_worth_117, sX2_worth_118, sX2_worth_119, sX2_worth_120, sX2_worth_123, sX2_worth_125, sX2_worth_128, sX2_worth_131, sX2_worth_134, sX2_worth_137, sX2_worth_138, sX2_worth_141, sX2_worth_142, sX2_worth_143, sX2_worth_146, sX2_worth_147, sX2_worth_148, sX2_worth_151, sX2_worth_154, sX2_worth_155, sX2_worth_158, sX2_worth_159, sX2_worth_160, sX2_worth_161, sX2_worth_164, sX2_worth_165, sX2_worth_168, sX2_worth_169, sX2_worth_170, sX2_worth_171, sX2_worth_172, sX2_worth_173, sX2_worth_176, sX2_worth_177, sX2_worth_178, sX2_worth_181, sX2_worth_182, sX2_worth_183, sX2_worth_186, sX2_worth_187, sX2_worth_190, sX2_worth_191, sX2_worth_192, sX2_worth_193, sX2_worth_194, sX2_worth_197, sX2_worth_198, sX2_worth_199, sX2_worth_200, sX2_worth_201, sX2_worth_203, sX2_worth_206, sX2_worth_207, sX2_worth_208, sX2_worth_211, sX2_worth_212, sX2_worth_213, sX2_worth_216, sX2_worth_217, sX2_worth_220, sX2_worth_223, sX2_worth_224, kI_i, kL_l, kV_v, am_rv_s, am_kl_i, am_kl_r, am_kl_n, am_kl_l, true_and, and_true, and_self, true_or, or_true, implies_true, forall_const, not_true_eq_false, not_false_eq_true, false_implies, true_implies, if_true, if_false, Bool.true_eq_false, Bool.false_eq_true, hob, g1, e0, gR_fl, l5, l6, i1, nI_clamp, g2, c1', e64, c5', i3, s1, nI_1, List.length_cons]
        · rcases List.mem_cons.mp hv with rfl | hv
          · have z1 := Int32.le_iff_toInt_le.mp c3
            have z2 := Int32.lt_iff_toInt_lt.mp c5
            have y1 : (0 : Int32).toInt = 0 := by decide
            have y2 : (10000 : Int32).toInt = 10000 := by decide
            unfold Bd; omega
          · exact hB v hv
      · have c5' : (10000 ≤ c) = True := eq_true (Int32.not_lt.mp c5)
        rw [if_neg c5]
        obtain ⟨x, hx, ex⟩ : ∃ x, x < 6 ∧ c = nI (10000 + x) := by
          obtain ⟨j, hj, ej⟩ := nI_of (x := c) (Int32.not_lt.mpr c3)
          rw [ej, show (10006 : Int32) = nI 10006 from rfl, nI_ltE hj (by omega)] at c4
          rw [ej, show (10000 : Int32) = nI 10000 from rfl, nI_ltE hj (by omega)] at c5
          exact ⟨j - 10000, by omega, by rw [ej, show 10000 + (j - 10000) = j by omega]⟩
        have e5 : c - 10000 = nI x := by rw [ex, show (10000 : Int32) = nI 10000 from rfl, pk_sub (by omega), Nat.add_sub_cancel_left]
        have g4 : ∀ f, gI (fl M (a + 2) 64 f) 394 x = gI M 394 x := fun f => gI_fn (by omega)
        rw [e5, (hL x hx).1]
        refine ⟨up f st.length (gI M 394 x), fun d Q hd => ?_, SK_push hS, fun v hv => ?_⟩
        · obtain ⟨d', rfl⟩ : ∃ d', d = d' + 2 := ⟨d - 2, by omega⟩
          rw [sX2_worth_4]
          simp (disch := (first | assumption | omega | decide)) only [sX2_worth_0, sX2_worth_1, sX2_worth_2, sX2_worth_3, sX2_worth_5, sX2_worth_6, sX2_worth_9, sX2_worth_12, sX2_worth_13, sX2_worth_16, sX2_worth_17, sX2_worth_18, sX2_worth_20, sX2_worth_22, sX2_worth_25, sX2_worth_28, sX2_worth_29, sX2_worth_31, sX2_worth_34, sX2_worth_35, sX2_worth_36, sX2_worth_37, sX2_worth_40, sX2_worth_41, sX2_worth_43, sX2_worth_46, sX2_worth_49, sX2_worth_51, sX2_worth_54, sX2_worth_55, sX2_worth_57, sX2_worth_60, sX2_worth_61, sX2_worth_64, sX2_worth_65, sX2_worth_68, sX2_worth_71, sX2_worth_72, sX2_worth_75, sX2_worth_76, sX2_worth_77, sX2_worth_79, sX2_worth_82, sX2_worth_85, sX2_worth_86, sX2_worth_89, sX2_worth_90, sX2_worth_91, sX2_worth_92, sX2_worth_93, sX2_worth_94, sX2_worth_96, sX2_worth_99, sX2_worth_102, sX2_worth_103, sX2_worth_106, sX2_worth_107, sX2_worth_108, sX2_worth_109, sX2_worth_110, sX2_worth_111, sX2_worth_114, sX2_worth_115, sX2_worth_116, sX2_worth_117, sX2_worth_118, sX2_worth_119, sX2_worth_120, sX2_worth_123, sX2_worth_125, sX2_worth_128, sX2_worth_131, sX2_worth_134, sX2_worth_137, sX2_worth_138, sX2_worth_141, sX2_worth_142, sX2_worth_143, sX2_worth_146, sX2_worth_147, sX2_worth_148, sX2_worth_151, sX2_worth_154, sX2_worth_155, sX2_worth_158, sX2_worth_159, sX2_worth_160, sX2_worth_161, sX2_worth_164, sX2_worth_165, sX2_worth_168, sX2_worth_169, sX2_worth_170, sX2_worth_171, sX2_worth_172, sX2_worth_173, sX2_worth_176, sX2_worth_177, sX2_worth_178, sX2_worth_181, sX2_worth_182, sX2_worth_183, sX2_worth_186, sX2_worth_187, sX2_worth_190, sX2_worth_191, sX2_worth_192, sX2_worth_193, sX2_worth_194, sX2_worth_197, sX2_worth_198, sX2_worth_199, sX2_worth_200, sX2_worth_201, sX2_worth_203, sX2_worth_206, sX2_worth_207, sX2_worth_208, sX2_worth_211, sX2_worth_212, sX2_worth_213, sX2_worth_216, sX2_worth_217, sX2_worth_220, sX2_worth_223, sX2_worth_224, kI_i, kL_l, kV_v, am_rv_s, am_kl_i, am_kl_r, am_kl_n, am_kl_l, true_and, and_true, and_self, true_or, or_true, implies_true, forall_const, not_true_eq_false, not_false_eq_true, false_implies, true_implies, if_true, if_false, Bool.true_eq_false, Bool.false_eq_true, hob, g1, e0, gR_fl, l5, l6, i1, nI_clamp, g2, c1', e64, c5', i3, s1, nI_1, List.length_cons, e5, c_letter, g4]
        · rcases List.mem_cons.mp hv with rfl | hv
          · exact (hL x hx).2
          · exact hB v hv
    · rw [if_neg c2] at h; cases h
  · rw [if_neg c1] at h
    have c1' : (20000 ≤ c) = True := eq_true (Int32.not_lt.mp c1)
    by_cases c2 : c = 20033
    · rw [if_pos c2] at h
      cases st with
      | nil => cases h
      | cons v r =>
        simp only at h
        by_cases c3 : is01 v = true
        · rw [if_pos c3] at h
          cases h
          have hr : r.length < 64 := by simp at hn; omega
          obtain ⟨t1, t2⟩ := SK_tl hS
          have e1 : nI (r.length + 1) - 1 = nI r.length := nI_pred _
          have e2 : (nI (r.length + 1) = 0) = False := by rw [nI_z (by omega)]; exact eq_false (by omega)
          have n33 : ((20033 : Int32) = 20000) = False := eq_false (by decide)
          have n34 : ((20000 : Int32) ≤ 20033) = True := eq_true (by decide)
          refine ⟨up f r.length (1 - v), fun d Q hd => ?_, SK_push t2, fun w hw => ?_⟩
          · subst c2
            rw [sX2_worth_4]
            simp (disch := (first | assumption | omega | decide)) only [sX2_worth_0, sX2_worth_1, sX2_worth_2, sX2_worth_3, sX2_worth_5, sX2_worth_6, sX2_worth_9, sX2_worth_12, sX2_worth_13, sX2_worth_16, sX2_worth_17, sX2_worth_18, sX2_worth_20, sX2_worth_22, sX2_worth_25, sX2_worth_28, sX2_worth_29, sX2_worth_31, sX2_worth_34, sX2_worth_35, sX2_worth_36, sX2_worth_37, sX2_worth_40, sX2_worth_41, sX2_worth_43, sX2_worth_46, sX2_worth_49, sX2_worth_51, sX2_worth_54, sX2_worth_55, sX2_worth_57, sX2_worth_60, sX2_worth_61, sX2_worth_64, sX2_worth_65, sX2_worth_68, sX2_worth_71, sX2_worth_72, sX2_worth_75, sX2_worth_76, sX2_worth_77, sX2_worth_79, sX2_worth_82, sX2_worth_85, sX2_worth_86, sX2_worth_89, sX2_worth_90, sX2_worth_91, sX2_worth_92, sX2_worth_93, sX2_worth_94, sX2_worth_96, sX2_worth_99, sX2_worth_102, sX2_worth_103, sX2_worth_106, sX2_worth_107, sX2_worth_108, sX2_worth_109, sX2_worth_110, sX2_worth_111, sX2_worth_114, sX2_worth_115, sX2_worth_116, sX2_worth_117, sX2_worth_118, sX2_worth_119, sX2_worth_120, sX2_worth_123, sX2_worth_125, sX2_worth_128, sX2_worth_131, sX2_worth_134, sX2_worth_137, sX2_worth_138, sX2_worth_141, sX2_worth_142, sX2_worth_143, sX2_worth_146, sX2_worth_147, sX2_worth_148, sX2_worth_151, sX2_worth_154, sX2_worth_155, sX2_worth_158, sX2_worth_159, sX2_worth_160, sX2_worth_161, sX2_worth_164, sX2_worth_165, sX2_worth_168, sX2_worth_169, sX2_worth_170, sX2_worth_171, sX2_worth_172, sX2_worth_173, sX2_worth_176, sX2_worth_177, sX2_worth_178, sX2_worth_181, sX2_worth_182, sX2_worth_183, sX2_worth_186, sX2_worth_187, sX2_worth_190, sX2_worth_191, sX2_worth_192, sX2_worth_193, sX2_worth_194, sX2_worth_197, sX2_worth_198, sX2_worth_199, sX2_worth_200, sX2_worth_201, sX2_worth_203, sX2_worth_206, sX2_worth_207, sX2_worth_208, sX2_worth_211, sX2_worth_212, sX2_worth_213, sX2_worth_216, sX2_worth_217, sX2_worth_220, sX2_worth_223, sX2_worth_224, kI_i, kL_l, kV_v, am_rv_s, am_kl_i, am_kl_r, am_kl_n, am_kl_l, true_and, and_true, and_self, true_or, or_true, implies_true, forall_const, not_true_eq_false, not_false_eq_true, false_implies, true_implies, if_true, if_false, Bool.true_eq_false, Bool.false_eq_true, hob, g1, e0, gR_fl, l5, l6, i1, i2, nI_clamp, g2, g3, n34, n33, i3, s1, nI_1, List.length_cons, e1, e2, t1]
          · rcases List.mem_cons.mp hw with rfl | hw
            · exact Bd_01 (not_is01 c3)
            · exact hB w (List.mem_cons_of_mem _ hw)
        · rw [if_neg c3] at h; cases h
    · rw [if_neg c2] at h
      cases st with
      | nil => cases h
      | cons b r =>
        cases r with
        | nil => cases h
        | cons v r =>
          simp only at h
          by_cases c3 : isAr (c - 20000) = true ∨ ((c = 20038 ∨ c = 20124) ∧ is01 v = true ∧ is01 b = true)
          · rw [if_pos c3] at h
            cases h
            have hr : r.length + 1 < 64 := by simp at hn; omega
            obtain ⟨t1, t2⟩ := SK_tl hS
            obtain ⟨t3, t4⟩ := SK_tl t2
            have hb1 : Bd b := hB b (by simp)
            have hb2 : Bd v := hB v (by simp)
            have e1 : nI (r.length + 1) - 1 = nI r.length := nI_pred _
            have e2 : (nI (r.length + 1 + 1) = 0) = False := by rw [nI_z (by omega)]; exact eq_false (by omega)
            have e3 : nI (r.length + 1 + 1) + -1 = nI (r.length + 1) := pk_m1 _
            have e4 : (nI (r.length + 1 + 1) = 1) = False := by rw [show (1 : Int32) = nI 1 from rfl, nI_eqE (by omega) (by omega)]; exact eq_false (by omega)
            have hop : isAr (c - 20000) = true ∨ c - 20000 = 38 ∨ c - 20000 = 124 := by
              rcases c3 with c3 | ⟨rfl | rfl, _⟩
              · exact Or.inl c3
              · exact Or.inr (Or.inl (by decide))
              · exact Or.inr (Or.inr (by decide))
            have hne : (c = 20000) = False ∧ (c = 20063) = False := by
              constructor <;> (refine eq_false (fun z => ?_); subst z; rcases hop with z | z | z <;> revert z <;> decide)
            have t1' : f (r.length + 1) = b := t1
            refine ⟨up f r.length (jn v (c - 20000) b), fun d Q hd => ?_, SK_push t4, fun w hw => ?_⟩
            · obtain ⟨d', rfl⟩ : ∃ d', d = d' + 2 := ⟨d - 2, by omega⟩
              rw [sX2_worth_4]
              simp (disch := (first | assumption | omega | decide)) only [sX2_worth_0, sX2_worth_1, sX2_worth_2, sX2_worth_3, sX2_worth_5, sX2_worth_6, sX2_worth_9, sX2_worth_12, sX2_worth_13, sX2_worth_16, sX2_worth_17, sX2_worth_18, sX2_worth_20, sX2_worth_22, sX2_worth_25, sX2_worth_28, sX2_worth_29, sX2_worth_31, sX2_worth_34, sX2_worth_35, sX2_worth_36, sX2_worth_37, sX2_worth_40, sX2_worth_41, sX2_worth_43, sX2_worth_46, sX2_worth_49, sX2_worth_51, sX2_worth_54, sX2_worth_55, sX2_worth_57, sX2_worth_60, sX2_worth_61, sX2_worth_64, sX2_worth_65, sX2_worth_68, sX2_worth_71, sX2_worth_72, sX2_worth_75, sX2_worth_76, sX2_worth_77, sX2_worth_79, sX2_worth_82, sX2_worth_85, sX2_worth_86, sX2_worth_89, sX2_worth_90, sX2_worth_91, sX2_worth_92, sX2_worth_93, sX2_worth_94, sX2_worth_96, sX2_worth_99, sX2_worth_102, sX2_worth_103, sX2_worth_106, sX2_worth_107, sX2_worth_108, sX2_worth_109, sX2_worth_110, sX2_worth_111, sX2_worth_114, sX2_worth_115, sX2_worth_116, sX2_worth_117, sX2_worth_118, sX2_worth_119, sX2_worth_120, sX2_worth_123, sX2_worth_125, sX2_worth_128, sX2_worth_131, sX2_worth_134, sX2_worth_137, sX2_worth_138, sX2_worth_141, sX2_worth_142, sX2_worth_143, sX2_worth_146, sX2_worth_147, sX2_worth_148, sX2_worth_151, sX2_worth_154, sX2_worth_155, sX2_worth_158, sX2_worth_159, sX2_worth_160, sX2_worth_161, sX2_worth_164, sX2_worth_165, sX2_worth_168, sX2_worth_169, sX2_worth_170, sX2_worth_171, sX2_worth_172, sX2_worth_173, sX2_worth_176, sX2_worth_177, sX2_worth_178, sX2_worth_181, sX2_worth_182, sX2_worth_183, sX2_worth_186, sX2_worth_187, sX2_worth_190, sX2_worth_191, sX2_worth_192, sX2_worth_193, sX2_worth_194, sX2_worth_197, sX2_worth_198, sX2_worth_199, sX2_worth_200, sX2_worth_201, sX2_worth_203, sX2_worth_206, sX2_worth_207, sX2_worth_208, sX2_worth_211, sX2_worth_212, sX2_worth_213, sX2_worth_216, sX2_worth_217, sX2_worth_220, sX2_worth_223, sX2_worth_224, kI_i, kL_l, kV_v, am_rv_s, am_kl_i, am_kl_r, am_kl_n, am_kl_l, true_and, and_true, and_self, true_or, or_true, implies_true, forall_const, not_true_eq_false, not_false_eq_true, false_implies, true_implies, if_true, if_false, Bool.true_eq_false, Bool.false_eq_true, hob, g1, e0, gR_fl, l5, l6, i1, i2, nI_clamp, g2, g3, c1', c2, hne.1, hne.2, i3, s1, nI_1, List.length_cons, e1, e2, e3, e4, t1', t3, c_joined hb2 hb1 hop]
            · rcases List.mem_cons.mp hw with rfl | hw
              · rcases c3 with c3 | ⟨c3, c4, c5⟩
                · exact Bd_jn hb2 hb1 c3
                · refine Bd_01 (log_is01 ?_ c4 c5)
                  rcases c3 with rfl | rfl
                  · exact Or.inl (by decide)
                  · exact Or.inr (by decide)
              · exact hB w (List.mem_cons_of_mem _ (List.mem_cons_of_mem _ hw))
          · rw [if_neg c3] at h; cases h
theorem w_ev (hl : LW M a full) (hL : ∀ x, x < 6 → L (nI x) = gI M 394 x ∧ Bd (gI M 394 x)) (ha : a + 2 < 394 ∨ 394 < a) : ∀ (c : List Int32) (i : Nat) (st st' : List Int32) (f : Nat → Int32) (l4 : Option Value), (∀ k (h : k < c.length), full[i + k]? = some c[k]) → (∀ v, v ∈ st → Bd v) → SK f st → st.length ≤ 64 → evB L 64 c st = some st' → ∃ f' l4', (∀ d (Q : am_Q), 2 ≤ d → ok d mX2_worth 488 Q 488 0 0 4 [some (.ref a), some (.ref 394), some (.int (nI st.length)), some (.int (nI i)), l4] [] (fl M (a + 2) 64 f) = ok d mX2_worth 488 Q 488 0 0 4 [some (.ref a), some (.ref 394), some (.int (nI st'.length)), some (.int (nI (i + c.length))), l4'] [] (fl M (a + 2) 64 f')) ∧ SK f' st' ∧ (∀ v, v ∈ st' → Bd v)
  | [], i, st, st', f, l4, _, hB, hS, _, h => by
    cases h
    exact ⟨f, l4, fun d Q _ => rfl, hS, hB⟩
  | c :: cs, i, st, st', f, l4, hc, hB, hS, hn, h => by
    unfold evB at h
    cases e : stB L 64 c st with
    | none => rw [e] at h; cases h
    | some s1 =>
      rw [e] at h
      have h0 := hc 0 (by simp)
      obtain ⟨hi, hc0⟩ := List.getElem?_eq_some_iff.mp h0
      have hc0 : full[i] = c := hc0
      obtain ⟨f1, e1, k1, b1⟩ := w_step (i := i) (l4 := l4) hl hL ha hi hc0 hB hS hn e
      obtain ⟨f2, l5, e2, k2, b2⟩ := w_ev hl hL ha cs (i + 1) s1 st' f1 (some (.int c)) (fun k hk => by
        have := hc (k + 1) (by simpa using hk)
        rw [show i + 1 + k = i + (k + 1) by omega]
        exact this) b1 k1 (stB_len e hn) h
      refine ⟨f2, l5, fun d Q hd => ?_, k2, b2⟩
      rw [e1 d Q hd, e2 d Q hd, show i + 1 + cs.length = i + (c :: cs).length by simp only [List.length_cons]; omega]
end
/-- the signs of the clauses from base on -/
def codF : Nat → List Cl → List Int32
  | _, [] => []
  | b, c :: r => cco b c ++ codF (b + (cco b c).length) r
theorem cod_F : ∀ (cs : List Cl) (l : List Int32), cs.foldl (fun l c => l ++ cco l.length c) l = l ++ codF l.length cs
  | [], l => by simp [codF]
  | c :: r, l => by
    show r.foldl _ (l ++ cco l.length c) = l ++ (cco l.length c ++ codF (l.length + (cco l.length c).length) r)
    rw [cod_F r (l ++ cco l.length c), List.length_append, List.append_assoc]
/-- what a clause comes to: whether its condition holds, its sum -/
def CLV (L : Int32 → Int32) (c : Cl) (t : Bool) (v : Int32) : Prop := (c.2.2 = true → CV L c.1 60 (bz t)) ∧ (c.2.2 = false → t = true) ∧ CV L c.2.1 60 v
def LVs (L : Int32 → Int32) : List Cl → List (Bool × Int32) → Prop
  | [], [] => True
  | c :: r, t :: s => CLV L c t.1 t.2 ∧ LVs L r s
  | _, _ => False
def fstV : List (Bool × Int32) → Int32
  | [] => 0
  | t :: r => if t.1 = true then t.2 else fstV r
section
variable {M : am_M} {a : Nat} {L : Int32 → Int32} {full : List Int32}
theorem seg_in {P c R : List Int32} (h : full = P ++ (c ++ R)) : ∀ k (hk : k < c.length), full[P.length + k]? = some c[k] := by
  intro k hk
  rw [h, List.getElem?_append_right (by omega), show P.length + k - P.length = k by omega, List.getElem?_append_left hk, List.getElem?_eq_getElem hk]
theorem w_stop {i : Nat} {v : Int32} {f : Nat → Int32} {l4 : Option Value} {d : Nat} {Q : am_Q} (hl : LW M a full) (hc : full[i]? = some 20000) (hS : SK f [v]) : ok d mX2_worth 488 Q 488 0 0 4 [some (.ref a), some (.ref 394), some (.int 1), some (.int (nI i)), l4] [] (fl M (a + 2) 64 f) = Q (some (.int v)) (fl M (a + 2) 64 f) := by
  obtain ⟨⟨l1, l2, l3, l4', l5, l6⟩, l7, l8, l9⟩ := hl
  obtain ⟨hi, hc⟩ := List.getElem?_eq_some_iff.mp hc
  have hob := ob (a := a) (c := 2) (by omega) l2
  have e0 : (nI full.length ≤ nI i) = False := by rw [nI_leE (by omega) (by omega)]; exact eq_false (by omega)
  have g1 : ∀ f, gI (fl M (a + 2) 64 f) a 2 = nI full.length := fun f => by rw [gI_fn (by omega), l7]
  have g2 : ∀ f, gI (fl M (a + 2) 64 f) (a + 1) i = 20000 := fun f => by rw [gI_fn (by omega), l9 i hi, hc]
  have i1 : ∀ N, am_in 488 N (a + 1) 1 (nI i) = True := fun N => in1 (by omega) l3 (by omega) (by omega)
  have g3 : gI (fl M (a + 2) 64 f) (a + 2) 0 = v := by rw [gI_fl (by omega)]; exact hS 0 (by simp)
  have i2 : ∀ N, am_in 488 N (a + 2) 1 0 = True := fun N => in1 (k := 0) (by omega) l4' (by omega) (by omega)
  have z1 : ((20000 : Int32) ≤ 20000) = True := eq_true (by decide)
  have z2 : (1 : Int32) - 1 = 0 := by decide
  have z3 : (0 : Int32).toNatClampNeg = 0 := by decide
  rw [sX2_worth_4]
  simp (disch := (first | assumption | omega | decide)) only [sX2_worth_0, sX2_worth_1, sX2_worth_2, sX2_worth_3, sX2_worth_5, sX2_worth_6, sX2_worth_9, sX2_worth_12, sX2_worth_13, sX2_worth_16, sX2_worth_17, sX2_worth_18, sX2_worth_20, sX2_worth_22, sX2_worth_25, sX2_worth_28, sX2_worth_29, sX2_worth_31, sX2_worth_34, sX2_worth_35, sX2_worth_36, sX2_worth_37, sX2_worth_40, sX2_worth_41, sX2_worth_43, sX2_worth_46, sX2_worth_49, sX2_worth_51, sX2_worth_54, sX2_worth_55, sX2_worth_57, sX2_worth_60, sX2_worth_61, sX2_worth_64, sX2_worth_65, sX2_worth_68, sX2_worth_71, sX2_worth_72, sX2_worth_75, sX2_worth_76, sX2_worth_77, sX2_worth_79, sX2_worth_82, sX2_worth_85, sX2_worth_86, sX2_worth_89, sX2_worth_90, sX2_worth_91, sX2_worth_92, sX2_worth_93, sX2_worth_94, sX2_worth_96, sX2_worth_99, sX2_worth_102, sX2_worth_103, sX2_worth_106, sX2_worth_107, sX2_worth_108, sX2_worth_109, sX2_worth_110, sX2_worth_111, sX2_worth_114, sX2_worth_115, sX2_worth_116, sX2_worth_117, sX2_worth_118, sX2_worth_119, sX2_worth_120, sX2_worth_123, sX2_worth_125, sX2_worth_128, sX2_worth_131, sX2_worth_134, sX2_worth_137, sX2_worth_138, sX2_worth_141, sX2_worth_142, sX2_worth_143, sX2_worth_146, sX2_worth_147, sX2_worth_148, sX2_worth_151, sX2_worth_154, sX2_worth_155, sX2_worth_158, sX2_worth_159, sX2_worth_160, sX2_worth_161, sX2_worth_164, sX2_worth_165, sX2_worth_168, sX2_worth_169, sX2_worth_170, sX2_worth_171, sX2_worth_172, sX2_worth_173, sX2_worth_176, sX2_worth_177, sX2_worth_178, sX2_worth_181, sX2_worth_182, sX2_worth_183, sX2_worth_186, sX2_worth_187, sX2_worth_190, sX2_worth_191, sX2_worth_192, sX2_worth_193, sX2_worth_194, sX2_worth_197, sX2_worth_198, sX2_worth_199, sX2_worth_200, sX2_worth_201, sX2_worth_203, sX2_worth_206, sX2_worth_207, sX2_worth_208, sX2_worth_211, sX2_worth_212, sX2_worth_213, sX2_worth_216, sX2_worth_217, sX2_worth_220, sX2_worth_223, sX2_worth_224, kI_i, kL_l, kV_v, am_rv_s, am_kl_i, am_kl_r, am_kl_n, am_kl_l, true_and, and_true, and_self, true_or, or_true, implies_true, forall_const, not_true_eq_false, not_false_eq_true, false_implies, true_implies, if_true, if_false, Bool.true_eq_false, Bool.false_eq_true, hob, g1, e0, gR_fl, l5, l6, i1, i2, nI_clamp, g2, g3, z1, z2, z3, i01]
theorem w_end {n : Int32} {f : Nat → Int32} {l4 : Option Value} {d : Nat} {Q : am_Q} (hl : LW M a full) : ok d mX2_worth 488 Q 488 0 0 4 [some (.ref a), some (.ref 394), some (.int n), some (.int (nI full.length)), l4] [] (fl M (a + 2) 64 f) = Q (some (.int 0)) (fl M (a + 2) 64 f) := by
  obtain ⟨⟨l1, l2, l3, l4', l5, l6⟩, l7, l8, l9⟩ := hl
  have hob := ob (a := a) (c := 2) (by omega) l2
  have g1 : ∀ f, gI (fl M (a + 2) 64 f) a 2 = nI full.length := fun f => by rw [gI_fn (by omega), l7]
  rw [sX2_worth_4]
  simp (disch := (first | assumption | omega | decide)) only [sX2_worth_0, sX2_worth_1, sX2_worth_2, sX2_worth_3, sX2_worth_5, sX2_worth_6, sX2_worth_9, sX2_worth_12, sX2_worth_13, sX2_worth_16, sX2_worth_17, sX2_worth_18, sX2_worth_20, sX2_worth_22, sX2_worth_25, sX2_worth_28, sX2_worth_29, sX2_worth_31, sX2_worth_34, sX2_worth_35, sX2_worth_36, sX2_worth_37, sX2_worth_40, sX2_worth_41, sX2_worth_43, sX2_worth_46, sX2_worth_49, sX2_worth_51, sX2_worth_54, sX2_worth_55, sX2_worth_57, sX2_worth_60, sX2_worth_61, sX2_worth_64, sX2_worth_65, sX2_worth_68, sX2_worth_71, sX2_worth_72, sX2_worth_75, sX2_worth_76, sX2_worth_77, sX2_worth_79, sX2_worth_82, sX2_worth_85, sX2_worth_86, sX2_worth_89, sX2_worth_90, sX2_worth_91, sX2_worth_92, sX2_worth_93, sX2_worth_94, sX2_worth_96, sX2_worth_99, sX2_worth_102, sX2_worth_103, sX2_worth_106, sX2_worth_107, sX2_worth_108, sX2_worth_109, sX2_worth_110, sX2_worth_111, sX2_worth_114, sX2_worth_115, sX2_worth_116, sX2_worth_117, sX2_worth_118, sX2_worth_119, sX2_worth_120, sX2_worth_123, sX2_worth_125, sX2_worth_128, sX2_worth_131, sX2_worth_134, sX2_worth_137, sX2_worth_138, sX2_worth_141, sX2_worth_142, sX2_worth_143, sX2_worth_146, sX2_worth_147, sX2_worth_148, sX2_worth_151, sX2_worth_154, sX2_worth_155, sX2_worth_158, sX2_worth_159, sX2_worth_160, sX2_worth_161, sX2_worth_164, sX2_worth_165, sX2_worth_168, sX2_worth_169, sX2_worth_170, sX2_worth_171, sX2_worth_172, sX2_worth_173, sX2_worth_176, sX2_worth_177, sX2_worth_178, sX2_worth_181, sX2_worth_182, sX2_worth_183, sX2_worth_186, sX2_worth_187, sX2_worth_190, sX2_worth_191, sX2_worth_192, sX2_worth_193, sX2_worth_194, sX2_worth_197, sX2_worth_198, sX2_worth_199, sX2_worth_200, sX2_worth_201, sX2_worth_203, sX2_worth_206, sX2_worth_207, sX2_worth_208, sX2_worth_211, sX2_worth_212, sX2_worth_213, sX2_worth_216, sX2_worth_217, sX2_worth_220, sX2_worth_223, sX2_worth_224, kI_i, kL_l, kV_v, am_rv_s, am_kl_i, am_kl_r, am_kl_n, am_kl_l, true_and, and_true, and_self, true_or, or_true, implies_true, forall_const, not_true_eq_false, not_false_eq_true, false_implies, true_implies, if_true, if_false, Bool.true_eq_false, Bool.false_eq_true, hob, g1, Int32.le_refl]
theorem w_que {i nx : Nat} {t : Bool} {f : Nat → Int32} {l4 : Option Value} (hl : LW M a full) (hc : full[i]? = some 20063) (hx : full[i + 1]? = some (nI nx)) (hnx : i + 2 ≤ nx) (hnl : nx ≤ 480) (hS : SK f [bz t]) : ∃ l4', ∀ d (Q : am_Q), ok d mX2_worth 488 Q 488 0 0 4 [some (.ref a), some (.ref 394), some (.int 1), some (.int (nI i)), l4] [] (fl M (a + 2) 64 f) = ok d mX2_worth 488 Q 488 0 0 4 [some (.ref a), some (.ref 394), some (.int 0), some (.int (nI (if t = true then i + 2 else nx))), l4'] [] (fl M (a + 2) 64 f) := by
  obtain ⟨⟨l1, l2, l3, l4', l5, l6⟩, l7, l8, l9⟩ := hl
  obtain ⟨hi, hc⟩ := List.getElem?_eq_some_iff.mp hc
  obtain ⟨hi2, hx⟩ := List.getElem?_eq_some_iff.mp hx
  have hob := ob (a := a) (c := 2) (by omega) l2
  have e0 : (nI full.length ≤ nI i) = False := by rw [nI_leE (by omega) (by omega)]; exact eq_false (by omega)
  have e1 : (nI full.length ≤ nI (i + 1)) = False := by rw [nI_leE (by omega) (by omega)]; exact eq_false (by omega)
  have e2 : (nI nx ≤ nI (i + 1)) = False := by rw [nI_leE (by omega) (by omega)]; exact eq_false (by omega)
  have g1 : ∀ f, gI (fl M (a + 2) 64 f) a 2 = nI full.length := fun f => by rw [gI_fn (by omega), l7]
  have g2 : ∀ f, gI (fl M (a + 2) 64 f) (a + 1) i = 20063 := fun f => by rw [gI_fn (by omega), l9 i hi, hc]
  have g2' : ∀ f, gI (fl M (a + 2) 64 f) (a + 1) (i + 1) = nI nx := fun f => by rw [gI_fn (by omega), l9 (i + 1) hi2, hx]
  have i1 : ∀ N, am_in 488 N (a + 1) 1 (nI i) = True := fun N => in1 (by omega) l3 (by omega) (by omega)
  have i1' : ∀ N, am_in 488 N (a + 1) 1 (nI (i + 1)) = True := fun N => in1 (by omega) l3 (by omega) (by omega)
  have g3 : gI (fl M (a + 2) 64 f) (a + 2) 0 = bz t := by rw [gI_fl (by omega)]; exact hS 0 (by simp)
  have i2 : ∀ N, am_in 488 N (a + 2) 1 0 = True := fun N => in1 (k := 0) (by omega) l4' (by omega) (by omega)
  have z1 : ((20000 : Int32) ≤ 20063) = True := eq_true (by decide)
  have z2 : (1 : Int32) + -1 = 0 := by decide
  have z3 : (0 : Int32).toNatClampNeg = 0 := by decide
  have z4 : ((20063 : Int32) = 20000) = False := eq_false (by decide)
  have z5 : ((20063 : Int32) = 20033) = False := eq_false (by decide)
  have z6 : nI nx - 1 + 1 = nI nx := Int32.sub_add_cancel _ _
  refine ⟨some (.int 20063), fun d Q => ?_⟩
  rw [sX2_worth_4]
  cases t with
  | true => simp (disch := (first | assumption | omega | decide)) only [sX2_worth_0, sX2_worth_1, sX2_worth_2, sX2_worth_3, sX2_worth_5, sX2_worth_6, sX2_worth_9, sX2_worth_12, sX2_worth_13, sX2_worth_16, sX2_worth_17, sX2_worth_18, sX2_worth_20, sX2_worth_22, sX2_worth_25, sX2_worth_28, sX2_worth_29, sX2_worth_31, sX2_worth_34, sX2_worth_35, sX2_worth_36, sX2_worth_37, sX2_worth_40, sX2_worth_41, sX2_worth_43, sX2_worth_46, sX2_worth_49, sX2_worth_51, sX2_worth_54, sX2_worth_55, sX2_worth_57, sX2_worth_60, sX2_worth_61, sX2_worth_64, sX2_worth_65, sX2_worth_68, sX2_worth_71, sX2_worth_72, sX2_worth_75, sX2_worth_76, sX2_worth_77, sX2_worth_79, sX2_worth_82, sX2_worth_85, sX2_worth_86, sX2_worth_89, sX2_worth_90, sX2_worth_91, sX2_worth_92, sX2_worth_93, sX2_worth_94, sX2_worth_96, sX2_worth_99, sX2_worth_102, sX2_worth_103, sX2_worth_106, sX2_worth_107, sX2_worth_108, sX2_worth_109, sX2_worth_110, sX2_worth_111, sX2_worth_114, sX2_worth_115, sX2_worth_116, sX2_worth_117, sX2_worth_118, sX2_worth_119, sX2_worth_120, sX2_worth_123, sX2_worth_125, sX2_worth_128, sX2_worth_131, sX2_worth_134, sX2_worth_137, sX2_worth_138, sX2_worth_141, sX2_worth_142, sX2_worth_143, sX2_worth_146, sX2_worth_147, sX2_worth_148, sX2_worth_151, sX2_worth_154, sX2_worth_155, sX2_worth_158, sX2_worth_159, sX2_worth_160, sX2_worth_161, sX2_worth_164, sX2_worth_165, sX2_worth_168, sX2_worth_169, sX2_worth_170, sX2_worth_171, sX2_worth_172, sX2_worth_173, sX2_worth_176, sX2_worth_177, sX2_worth_178, sX2_worth_181, sX2_worth_182, sX2_worth_183, sX2_worth_186, sX2_worth_187, sX2_worth_190, sX2_worth_191, sX2_worth_192, sX2_worth_193, sX2_worth_194, sX2_worth_197, sX2_worth_198, sX2_worth_199, sX2_worth_200, sX2_worth_201, sX2_worth_203, sX2_worth_206, sX2_worth_207, sX2_worth_208, sX2_worth_211, sX2_worth_212, sX2_worth_213, sX2_worth_216, sX2_worth_217, sX2_worth_220, sX2_worth_223, sX2_worth_224, kI_i, kL_l, kV_v, am_rv_s, am_kl_i, am_kl_r, am_kl_n, am_kl_l, true_and, and_true, and_self, true_or, or_true, implies_true, forall_const, not_true_eq_false, not_false_eq_true, false_implies, true_implies, if_true, if_false, Bool.true_eq_false, Bool.false_eq_true, hob, g1, e0, gR_fl, l5, l6, i1, i2, nI_clamp, g2, g3, z1, z2, z3, z4, z5, i01, bz_t, nI_1]
  | false => simp (disch := (first | assumption | omega | decide)) only [sX2_worth_0, sX2_worth_1, sX2_worth_2, sX2_worth_3, sX2_worth_5, sX2_worth_6, sX2_worth_9, sX2_worth_12, sX2_worth_13, sX2_worth_16, sX2_worth_17, sX2_worth_18, sX2_worth_20, sX2_worth_22, sX2_worth_25, sX2_worth_28, sX2_worth_29, sX2_worth_31, sX2_worth_34, sX2_worth_35, sX2_worth_36, sX2_worth_37, sX2_worth_40, sX2_worth_41, sX2_worth_43, sX2_worth_46, sX2_worth_49, sX2_worth_51, sX2_worth_54, sX2_worth_55, sX2_worth_57, sX2_worth_60, sX2_worth_61, sX2_worth_64, sX2_worth_65, sX2_worth_68, sX2_worth_71, sX2_worth_72, sX2_worth_75, sX2_worth_76, sX2_worth_77, sX2_worth_79, sX2_worth_82, sX2_worth_85, sX2_worth_86, sX2_worth_89, sX2_worth_90, sX2_worth_91, sX2_worth_92, sX2_worth_93, sX2_worth_94, sX2_worth_96, sX2_worth_99, sX2_worth_102, sX2_worth_103, sX2_worth_106, sX2_worth_107, sX2_worth_108, sX2_worth_109, sX2_worth_110, sX2_worth_111, sX2_worth_114, sX2_worth_115, sX2_worth_116, sX2_worth_117, sX2_worth_118, sX2_worth_119, sX2_worth_120, sX2_worth_123, sX2_worth_125, sX2_worth_128, sX2_worth_131, sX2_worth_134, sX2_worth_137, sX2_worth_138, sX2_worth_141, sX2_worth_142, sX2_worth_143, sX2_worth_146, sX2_worth_147, sX2_worth_148, sX2_worth_151, sX2_worth_154, sX2_worth_155, sX2_worth_158, sX2_worth_159, sX2_worth_160, sX2_worth_161, sX2_worth_164, sX2_worth_165, sX2_worth_168, sX2_worth_169, sX2_worth_170, sX2_worth_171, sX2_worth_172, sX2_worth_173, sX2_worth_176, sX2_worth_177, sX2_worth_178, sX2_worth_181, sX2_worth_182, sX2_worth_183, sX2_worth_186, sX2_worth_187, sX2_worth_190, sX2_worth_191, sX2_worth_192, sX2_worth_193, sX2_worth_194, sX2_worth_197, sX2_worth_198, sX2_worth_199, sX2_worth_200, sX2_worth_201, sX2_worth_203, sX2_worth_206, sX2_worth_207, sX2_worth_208, sX2_worth_211, sX2_worth_212, sX2_worth_213, sX2_worth_216, sX2_worth_217, sX2_worth_220, sX2_worth_223, sX2_worth_224, kI_i, kL_l, kV_v, am_rv_s, am_kl_i, am_kl_r, am_kl_n, am_kl_l, true_and, and_true, and_self, true_or, or_true, implies_true, forall_const, not_true_eq_false, not_false_eq_true, false_implies, true_implies, if_true, if_false, Bool.true_eq_false, Bool.false_eq_true, hob, g1, e0, e1, e2, gR_fl, l5, l6, i1, i1', i2, nI_clamp, g2, g2', g3, z1, z2, z3, z4, z5, z6, i01, bz_f, nI_1]
theorem w_cl (hl : LW M a full) (hL : ∀ x, x < 6 → L (nI x) = gI M 394 x ∧ Bd (gI M 394 x)) (ha : a + 2 < 394 ∨ 394 < a) : ∀ (cs : List Cl) (vs : List (Bool × Int32)) (P : List Int32) (f : Nat → Int32) (l4 : Option Value), full = P ++ codF P.length cs → LVs L cs vs → ∃ f', ∀ d (Q : am_Q), 2 ≤ d → ok d mX2_worth 488 Q 488 0 0 4 [some (.ref a), some (.ref 394), some (.int 0), some (.int (nI P.length)), l4] [] (fl M (a + 2) 64 f) = Q (some (.int (fstV vs))) (fl M (a + 2) 64 f')
  | [], [], P, f, l4, hf, _ => by
    have e : P.length = full.length := by rw [hf]; simp [codF]
    exact ⟨f, fun d Q _ => by rw [e]; exact w_end hl⟩
  | [], _ :: _, _, _, _, _, h => h.elim
  | _ :: _, [], _, _, _, _, h => h.elim
  | c :: r, t :: s, P, f, l4, hf, h => by
    obtain ⟨⟨h1, h2, h3⟩, h4⟩ := h
    have hfl : full.length ≤ 480 := hl.2.2.1
    have hS0 : SK f [] := fun k hk => by cases hk
    cases hc : c.2.2 with
    | false =>
      have ht := h2 hc
      have hcc : cco P.length c = c.2.1 ++ [20000] := by unfold cco; rw [hc]; rfl
      have hf1 : full = P ++ (c.2.1 ++ ([20000] ++ codF (P.length + (cco P.length c).length) r)) := by rw [hf]; show P ++ (cco P.length c ++ _) = _; rw [hcc]; simp only [List.append_assoc]
      obtain ⟨f1, l5, e1, k1, b1⟩ := w_ev hl hL ha c.2.1 P.length [] [t.2] f l4 (seg_in hf1) (fun v hv => by cases hv) hS0 (by simp) (h3 [] 64 (by simp))
      have hst : full[P.length + c.2.1.length]? = some 20000 := by
        have := seg_in (P := P ++ c.2.1) (c := [20000]) (R := codF (P.length + (cco P.length c).length) r) (full := full) (by rw [hf1]; simp only [List.append_assoc]) 0 (by simp)
        rw [List.length_append] at this
        exact this
      refine ⟨f1, fun d Q hd => ?_⟩
      rw [show (0 : Int32) = nI ([] : List Int32).length from rfl, e1 d Q hd]
      unfold fstV
      rw [if_pos ht]
      exact w_stop hl hst k1
    | true =>
      have hcv := h1 hc
      have hcc : cco P.length c = c.1 ++ [20063, nI (P.length + c.1.length + 2 + c.2.1.length + 1)] ++ c.2.1 ++ [20000] := by unfold cco; rw [hc]; rfl
      have hln : (cco P.length c).length = c.1.length + 2 + c.2.1.length + 1 := by rw [hcc]; simp only [List.length_append, List.length_cons, List.length_nil]
      have hf1 : full = P ++ (c.1 ++ ([20063, nI (P.length + c.1.length + 2 + c.2.1.length + 1)] ++ (c.2.1 ++ ([20000] ++ codF (P.length + (cco P.length c).length) r)))) := by rw [hf]; show P ++ (cco P.length c ++ _) = _; rw [hcc]; simp only [List.append_assoc]
      have hlen : P.length + (c.1.length + 2 + c.2.1.length + 1) ≤ full.length := by rw [hf1]; simp only [List.length_append, List.length_cons, List.length_nil]; omega
      obtain ⟨f1, l5, e1, k1, b1⟩ := w_ev hl hL ha c.1 P.length [] [bz t.1] f l4 (seg_in hf1) (fun v hv => by cases hv) hS0 (by simp) (hcv [] 64 (by simp))
      have hq : ∀ k (hk : k < 2), full[P.length + c.1.length + k]? = some [20063, nI (P.length + c.1.length + 2 + c.2.1.length + 1)][k] := fun k hk => by
        have := seg_in (P := P ++ c.1) (c := [20063, nI (P.length + c.1.length + 2 + c.2.1.length + 1)]) (R := c.2.1 ++ ([20000] ++ codF (P.length + (cco P.length c).length) r)) (full := full) (by rw [hf1]; simp only [List.append_assoc]) k (by simpa using hk)
        rw [List.length_append] at this
        exact this
      obtain ⟨l6, e2⟩ := w_que (i := P.length + c.1.length) (l4 := l5) (t := t.1) hl (hq 0 (by omega)) (hq 1 (by omega)) (by omega) (by omega) k1
      cases ht : t.1 with
      | true =>
        have hf2 : full = (P ++ c.1 ++ [20063, nI (P.length + c.1.length + 2 + c.2.1.length + 1)]) ++ (c.2.1 ++ ([20000] ++ codF (P.length + (cco P.length c).length) r)) := by rw [hf1]; simp only [List.append_assoc]
        have hP2 : (P ++ c.1 ++ [20063, nI (P.length + c.1.length + 2 + c.2.1.length + 1)]).length = P.length + c.1.length + 2 := by simp only [List.length_append, List.length_cons, List.length_nil]
        have sg2 := seg_in hf2
        rw [hP2] at sg2
        have hS1 : SK f1 [] := fun k hk => by cases hk
        obtain ⟨f2, l7, e3, k3, b3⟩ := w_ev hl hL ha c.2.1 (P.length + c.1.length + 2) [] [t.2] f1 l6 sg2 (fun v hv => by cases hv) hS1 (by simp) (h3 [] 64 (by simp))
        have hst : full[P.length + c.1.length + 2 + c.2.1.length]? = some 20000 := by
          have := seg_in (P := P ++ c.1 ++ [20063, nI (P.length + c.1.length + 2 + c.2.1.length + 1)] ++ c.2.1) (c := [20000]) (R := codF (P.length + (cco P.length c).length) r) (full := full) (by rw [hf1]; simp only [List.append_assoc]) 0 (by simp)
          rw [List.length_append, hP2] at this
          exact this
        refine ⟨f2, fun d Q hd => ?_⟩
        rw [show (0 : Int32) = nI ([] : List Int32).length from rfl, e1 d Q hd]
        show ok d mX2_worth 488 Q 488 0 0 4 [some (.ref a), some (.ref 394), some (.int 1), _, _] [] _ = _
        rw [e2 d Q, ht, if_pos rfl, show (0 : Int32) = nI ([] : List Int32).length from rfl, e3 d Q hd]
        unfold fstV
        rw [ht, if_pos rfl]
        exact w_stop hl hst k3
      | false =>
        have hf2 : full = (P ++ cco P.length c) ++ codF (P ++ cco P.length c).length r := by rw [hf]; show P ++ (cco P.length c ++ _) = _; simp only [List.append_assoc, List.length_append]
        obtain ⟨f2, e3⟩ := w_cl hl hL ha r s (P ++ cco P.length c) f1 l6 hf2 h4
        refine ⟨f2, fun d Q hd => ?_⟩
        rw [show (0 : Int32) = nI ([] : List Int32).length from rfl, e1 d Q hd]
        show ok d mX2_worth 488 Q 488 0 0 4 [some (.ref a), some (.ref 394), some (.int 1), _, _] [] _ = _
        rw [e2 d Q, ht, if_neg (by decide), show P.length + c.1.length + 2 + c.2.1.length + 1 = (P ++ cco P.length c).length by rw [List.length_append, hln]; omega, e3 d Q hd]
        show _ = Q (some (.int (if t.1 = true then t.2 else fstV s))) _
        rw [ht, if_neg (by decide)]
/-- what a law's signs are worth -/
theorem c_worth {cs : List Cl} {vs : List (Bool × Int32)} (hl : LW M a (cod cs)) (hL : ∀ x, x < 6 → L (nI x) = gI M 394 x ∧ Bd (gI M 394 x)) (ha : a + 2 < 394 ∨ 394 < a) (hv : LVs L cs vs) : ∃ f', ∀ d (Q : am_Q), am_big (d + 3) mX2_worth [.ref a, .ref 394] 488 M Q = Q (some (.int (fstV vs))) (fl M (a + 2) 64 f') := by
  have hf : cod cs = [] ++ codF ([] : List Int32).length cs := cod_F cs []
  obtain ⟨f', e⟩ := w_cl hl hL ha cs vs [] (gI M (a + 2)) none hf hv
  refine ⟨f', fun d Q => ?_⟩
  have := e (d + 2) Q (by omega)
  rw [fl_id (fun k _ => rfl)] at this
  rw [eX2_worth]
  simp only [sX2_worth_0, sX2_worth_1, sX2_worth_2, sX2_worth_3, sX2_worth_5, sX2_worth_6, sX2_worth_9, sX2_worth_12, sX2_worth_13, sX2_worth_16, sX2_worth_17, sX2_worth_18, sX2_worth_20, sX2_worth_22, sX2_worth_25, sX2_worth_28, sX2_worth_29, sX2_worth_31, sX2_worth_34, sX2_worth_35, sX2_worth_36, sX2_worth_37, sX2_worth_40, sX2_worth_41, sX2_worth_43, sX2_worth_46, sX2_worth_49, sX2_worth_51, sX2_worth_54, sX2_worth_55, sX2_worth_57, sX2_worth_60, sX2_worth_61, sX2_worth_64, sX2_worth_65, sX2_worth_68, sX2_worth_71, sX2_worth_72, sX2_worth_75, sX2_worth_76, sX2_worth_77, sX2_worth_79, sX2_worth_82, sX2_worth_85, sX2_worth_86, sX2_worth_89, sX2_worth_90, sX2_worth_91, sX2_worth_92, sX2_worth_93, sX2_worth_94, sX2_worth_96, sX2_worth_99, sX2_worth_102, sX2_worth_103, sX2_worth_106, sX2_worth_107, sX2_worth_108, sX2_worth_109, sX2_worth_110, sX2_worth_111, sX2_worth_114, sX2_worth_115, sX2_worth_116, sX2_worth_117, sX2_worth_118, sX2_worth_119, sX2_worth_120, sX2_worth_123, sX2_worth_125, sX2_worth_128, sX2_worth_131, sX2_worth_134, sX2_worth_137, sX2_worth_138, sX2_worth_141, sX2_worth_142, sX2_worth_143, sX2_worth_146, sX2_worth_147, sX2_worth_148, sX2_worth_151, sX2_worth_154, sX2_worth_155, sX2_worth_158, sX2_worth_159, sX2_worth_160, sX2_worth_161, sX2_worth_164, sX2_worth_165, sX2_worth_168, sX2_worth_169, sX2_worth_170, sX2_worth_171, sX2_worth_172, sX2_worth_173, sX2_worth_176, sX2_worth_177, sX2_worth_178, sX2_worth_181, sX2_worth_182, sX2_worth_183, sX2_worth_186, sX2_worth_187, sX2_worth_190, sX2_worth_191, sX2_worth_192, sX2_worth_193, sX2_worth_194, sX2_worth_197, sX2_worth_198, sX2_worth_199, sX2_worth_200, sX2_worth_201, sX2_worth_203, sX2_worth_206, sX2_worth_207, sX2_worth_208, sX2_worth_211, sX2_worth_212, sX2_worth_213, sX2_worth_216, sX2_worth_217, sX2_worth_220, sX2_worth_223, sX2_worth_224, kI_i, kL_l, kV_v, am_rv_s, am_kl_i, am_kl_r, am_kl_n, am_kl_l, true_and, and_true, and_self, true_or, or_true, implies_true, forall_const, not_true_eq_false, not_false_eq_true, false_implies, true_implies, if_true, if_false, Bool.true_eq_false, Bool.false_eq_true]
  exact this
end
