/-! the reference reads a text: bytes b from beg on, len of them, T their signs -/
def bsT (c : Nat) : Int32 := nI c
theorem bsx_and : ∀ c, c < 256 → bsx c &&& 255 = nI c := sc_k8
theorem bsx_32 : ∀ c, c < 256 → (decide (bsx c = 32) = decide (nI c = 32)) := by decide +kernel
theorem bsx_d : ∀ c, c < 256 → ((decide (bsx c < 48) = false ∧ decide (57 < bsx c) = false) ↔ dgt (nI c) = true) := by decide +kernel
def PB (M : am_M) (b beg : Nat) (T : Nat → Int32) (len : Nat) : Prop := ((b = 458 ∧ beg + len ≤ 240) ∨ (b = 459 ∧ beg + len ≤ 960)) ∧ gR M 457 5 = some b ∧ gI M 457 8 = nI beg ∧ gI M 457 9 = nI len ∧ len ≤ 240 ∧ ∀ k, k < len → ∃ c, c < 256 ∧ gI M b (beg + k) = bsx c ∧ T k = nI c
/-- the place and the fault -/
def pm (M : am_M) (p : Nat) (f : Int32) : am_M := sI (sI M 457 10 (nI p)) 457 11 f
section
variable {d : Nat} {M : am_M} {Q : am_Q} {b beg len p q : Nat} {T : Nat → Int32} {f g : Int32}
theorem pm_at : sI (pm M p f) 457 10 (nI q) = pm M q f := by
  unfold pm
  rw [sI_com (M := sI M 457 10 (nI p)) (Or.inr (by omega)), sI_sI]
theorem pm_f : sI (pm M p f) 457 11 g = pm M p g := by unfold pm; rw [sI_sI]
theorem pm_pm : pm (pm M p f) q g = pm M q g := by
  show sI (sI (pm M p f) 457 10 (nI q)) 457 11 g = _
  rw [pm_at, pm_f]
theorem gI_pm0 : gI (pm M p f) 457 10 = nI p := by unfold pm; rw [gI_j (by omega), gI_e]
theorem gI_pm1 : gI (pm M p f) 457 11 = f := by unfold pm; rw [gI_e]
theorem gI_pm {a j : Nat} (h : a ≠ 457 ∨ (j ≠ 10 ∧ j ≠ 11)) : gI (pm M p f) a j = gI M a j := by unfold pm; rw [gI_sI, if_neg (by omega), gI_sI, if_neg (by omega)]
theorem gR_pm {a j : Nat} : gR (pm M p f) a j = gR M a j := rfl
theorem gL_pm {a j : Nat} : gL (pm M p f) a j = gL M a j := rfl
theorem WR_pm (h : WR M) : WR (pm M p f) := h
theorem Fw_pm {X : Nat → Nat → Prop} (h1 : X 457 10) (h2 : X 457 11) : Fw X M (pm M p f) := (Fw.s h1).tr (Fw.s h2)
theorem PB.b458 (h : PB M b beg T len) : b = 458 ∨ b = 459 := by rcases h.1 with h | h <;> omega
theorem PB.iw (h : PB M b beg T len) {k : Nat} (hk : k < len) : (am_iw 488 b 2 (nI (beg + k)) ∨ am_iw 488 b 3 (nI (beg + k))) = True := by
  rcases h.1 with ⟨rfl, h2⟩ | ⟨rfl, h2⟩
  · rw [iw_458 (by omega)]; simp
  · rw [iw_459 (by omega)]; simp
theorem PB.by (h : PB M b beg T len) {k : Nat} (hk : k < len) : gI M b (beg + k) &&& 255 = T k ∧ ((gI M b (beg + k) = 32) = (T k = 32)) ∧ ((¬ gI M b (beg + k) < 48 ∧ ¬ 57 < gI M b (beg + k)) = (dgt (T k) = true)) := by
  obtain ⟨c, h1, h2, h3⟩ := h.2.2.2.2.2 k hk
  rw [h2, h3]
  refine ⟨bsx_and c h1, ?_, ?_⟩
  · have := bsx_32 c h1
    exact propext (by simpa using this)
  · have := bsx_d c h1
    exact propext (by simpa using this)
theorem PB.lim (h : PB M b beg T len) : beg + len ≤ 960 := by rcases h.1 with h | h <;> omega
theorem m_look (h : PB M b beg T len) (hp : p ≤ len) : am_big (d + 1) mX11_look [.ref 457] 488 (pm M p f) Q = Q (some (.int (sg T len (skp T len p)))) (pm M (skp T len p) f) := by
  rw [eX11_look]
  have hg := h.lim
  have hlen := h.2.2.2.2.1
  have key : ∀ (j p : Nat), p + j = len → ok d mX11_look 488 Q 488 0 0 0 [some (.ref 457)] [] (pm M p f) = Q (some (.int (sg T len (sk T j p)))) (pm M (sk T j p) f) := by
    intro j
    induction j with
    | zero =>
      intro p hp
      have e : p = len := by omega
      subst e
      rw [sX11_look_0]
      simp (disch := (first | assumption | omega | decide)) only [sX11_look_1, sX11_look_4, sX11_look_5, sX11_look_8, sX11_look_11, sX11_look_12, sX11_look_15, sX11_look_16, sX11_look_19, sX11_look_20, sX11_look_23, sX11_look_24, sX11_look_25, sX11_look_27, sX11_look_30, sX11_look_31, sX11_look_32, sX11_look_35, sX11_look_36, sX11_look_37, sX11_look_40, sX11_look_43, sX11_look_44, sX11_look_47, sX11_look_48, sX11_look_51, sX11_look_54, sX11_look_55, sX11_look_58, sX11_look_59, sX11_look_62, sX11_look_63, sX11_look_66, sX11_look_67, sX11_look_68, sX11_look_71, sX11_look_72, sX11_look_75, sX11_look_76, kI_i, kL_l, kV_v, am_rv_s, am_kl_i, am_kl_r, am_kl_n, am_kl_l, true_and, and_true, and_self, true_or, or_true, implies_true, forall_const, not_true_eq_false, not_false_eq_true, false_implies, true_implies, if_true, if_false, Bool.true_eq_false, Bool.false_eq_true, ob_457, gI_pm0, gI_pm, h.2.2.2.1, Int32.le_refl, sk, sg, Nat.lt_irrefl, if_false]
    | succ j ih =>
      intro p hp
      have e0 : (nI len ≤ nI p) = False := by rw [nI_leE (by omega) (by omega)]; exact eq_false (by omega)
      obtain ⟨b1, b2, b3⟩ := h.by (k := p) (by omega)
      have bn : b ≠ 457 := by rcases h.b458 with h | h <;> omega
      have hlt : p < len := by omega
      rw [sX11_look_0]
      simp (disch := (first | assumption | omega | decide)) only [sX11_look_1, sX11_look_4, sX11_look_5, sX11_look_8, sX11_look_11, sX11_look_12, sX11_look_15, sX11_look_16, sX11_look_19, sX11_look_20, sX11_look_23, sX11_look_24, sX11_look_25, sX11_look_27, sX11_look_30, sX11_look_31, sX11_look_32, sX11_look_35, sX11_look_36, sX11_look_37, sX11_look_40, sX11_look_43, sX11_look_44, sX11_look_47, sX11_look_48, sX11_look_51, sX11_look_54, sX11_look_55, sX11_look_58, sX11_look_59, sX11_look_62, sX11_look_63, sX11_look_66, sX11_look_67, sX11_look_68, sX11_look_71, sX11_look_72, sX11_look_75, sX11_look_76, kI_i, kL_l, kV_v, am_rv_s, am_kl_i, am_kl_r, am_kl_n, am_kl_l, true_and, and_true, and_self, true_or, or_true, implies_true, forall_const, not_true_eq_false, not_false_eq_true, false_implies, true_implies, if_true, if_false, Bool.true_eq_false, Bool.false_eq_true, ob_457, gI_pm0, gI_pm, gR_pm, h.2.1, h.2.2.1, h.2.2.2.1, e0, nI_add, h.iw (k := p) (by omega), nI_clamp, b1, b2, nI_1, pm_at, ih (p + 1) (by omega)]
      by_cases c : T p = 32
      · simp [c, sk]
      · simp [c, sk, sg, hlt]
  exact key (len - p) p (by omega)
theorem m_fails0 : am_big (d + 1) mX11_fails [.ref 457] 488 (pm M p (-1)) Q = Q (some (.int 0)) (pm M p (nI p)) := by
  rw [eX11_fails]
  simp (disch := (first | assumption | omega | decide)) only [sX11_fails_0, sX11_fails_1, sX11_fails_4, sX11_fails_5, sX11_fails_8, sX11_fails_9, sX11_fails_10, sX11_fails_13, sX11_fails_16, sX11_fails_17, kI_i, kL_l, kV_v, am_rv_s, am_kl_i, am_kl_r, am_kl_n, am_kl_l, true_and, and_true, and_self, true_or, or_true, implies_true, forall_const, not_true_eq_false, not_false_eq_true, false_implies, true_implies, if_true, if_false, Bool.true_eq_false, Bool.false_eq_true, ob_457, gI_pm1, gI_pm0, pm_f]
theorem m_fails1 {k : Nat} (h : k ≤ 240) : am_big (d + 1) mX11_fails [.ref 457] 488 (pm M p (nI k)) Q = Q (some (.int 0)) (pm M p (nI k)) := by
  rw [eX11_fails]
  simp (disch := (first | assumption | omega | decide)) only [sX11_fails_0, sX11_fails_1, sX11_fails_4, sX11_fails_5, sX11_fails_8, sX11_fails_9, sX11_fails_10, sX11_fails_13, sX11_fails_16, sX11_fails_17, kI_i, kL_l, kV_v, am_rv_s, am_kl_i, am_kl_r, am_kl_n, am_kl_l, true_and, and_true, and_self, true_or, or_true, implies_true, forall_const, not_true_eq_false, not_false_eq_true, false_implies, true_implies, if_true, if_false, Bool.true_eq_false, Bool.false_eq_true, ob_457, gI_pm1, gI_pm0, pm_f, nI_m1 (by omega : k < 2 ^ 31)]
theorem m_isDigit (h : PB M b beg T len) (hp : p ≤ len) : am_big (d + 1) mX11_isDigit [.ref 457] 488 (pm M p f) Q = Q (some (.int (bz (dgt (sg T len p))))) (pm M p f) := by
  have hg := h.lim
  have hlen := h.2.2.2.2.1
  have bn : b ≠ 457 := by rcases h.b458 with h | h <;> omega
  rw [eX11_isDigit]
  by_cases hq : p = len
  · subst hq
    simp (disch := (first | assumption | omega | decide)) only [sX11_isDigit_0, sX11_isDigit_1, sX11_isDigit_4, sX11_isDigit_5, sX11_isDigit_8, sX11_isDigit_11, sX11_isDigit_12, sX11_isDigit_15, sX11_isDigit_16, sX11_isDigit_19, sX11_isDigit_20, sX11_isDigit_23, sX11_isDigit_24, sX11_isDigit_25, sX11_isDigit_27, sX11_isDigit_30, sX11_isDigit_31, sX11_isDigit_34, sX11_isDigit_35, sX11_isDigit_38, sX11_isDigit_39, sX11_isDigit_42, sX11_isDigit_43, sX11_isDigit_44, sX11_isDigit_46, sX11_isDigit_49, sX11_isDigit_50, sX11_isDigit_53, sX11_isDigit_54, kI_i, kL_l, kV_v, am_rv_s, am_kl_i, am_kl_r, am_kl_n, am_kl_l, true_and, and_true, and_self, true_or, or_true, implies_true, forall_const, not_true_eq_false, not_false_eq_true, false_implies, true_implies, if_true, if_false, Bool.true_eq_false, Bool.false_eq_true, ob_457, gI_pm0, gI_pm, h.2.2.2.1, Int32.le_refl, sg, Nat.lt_irrefl]
    rfl
  · have e0 : (nI len ≤ nI p) = False := by rw [nI_leE (by omega) (by omega)]; exact eq_false (by omega)
    obtain ⟨b1, b2, b3⟩ := h.by (k := p) (by omega)
    have hlt : p < len := by omega
    simp (disch := (first | assumption | omega | decide)) only [sX11_isDigit_0, sX11_isDigit_1, sX11_isDigit_4, sX11_isDigit_5, sX11_isDigit_8, sX11_isDigit_11, sX11_isDigit_12, sX11_isDigit_15, sX11_isDigit_16, sX11_isDigit_19, sX11_isDigit_20, sX11_isDigit_23, sX11_isDigit_24, sX11_isDigit_25, sX11_isDigit_27, sX11_isDigit_30, sX11_isDigit_31, sX11_isDigit_34, sX11_isDigit_35, sX11_isDigit_38, sX11_isDigit_39, sX11_isDigit_42, sX11_isDigit_43, sX11_isDigit_44, sX11_isDigit_46, sX11_isDigit_49, sX11_isDigit_50, sX11_isDigit_53, sX11_isDigit_54, kI_i, kL_l, kV_v, am_rv_s, am_kl_i, am_kl_r, am_kl_n, am_kl_l, true_and, and_true, and_self, true_or, or_true, implies_true, forall_const, not_true_eq_false, not_false_eq_true, false_implies, true_implies, if_true, if_false, Bool.true_eq_false, Bool.false_eq_true, ob_457, gI_pm0, gI_pm, gR_pm, h.2.1, h.2.2.1, h.2.2.2.1, e0, nI_add, h.iw (k := p) (by omega), nI_clamp, sg, hlt]
    generalize gI M b (beg + p) = y at b1 b2 b3
    cases q : dgt (T p) with
    | false =>
      rw [q] at b3
      by_cases c1 : y < 48
      · simp [c1, bz]
      · by_cases c2 : 57 < y
        · simp [c1, c2, bz]
        · simp [c1, c2] at b3
    | true =>
      rw [q] at b3
      simp only [eq_self_iff_true, eq_iff_iff, iff_true] at b3
      simp [b3.1, b3.2, bz]
theorem m_digit (h : PB M b beg T len) (hp : p ≤ len) : am_big (d + 2) mX11_digit [.ref 457] 488 (pm M p (-1)) Q = if dgt (sg T len (skp T len p)) = true then Q (some (.int (sg T len (skp T len p) - 48))) (pm M (skp T len p + 1) (-1)) else Q (some (.int 0)) (pm M (skp T len p) (nI (skp T len p))) := by
  have hs := skp_le' (T := T) hp
  rw [eX11_digit]
  cases q : dgt (sg T len (skp T len p)) with
  | false => simp (disch := (first | assumption | omega | decide)) only [sX11_digit_0, sX11_digit_1, sX11_digit_4, sX11_digit_5, sX11_digit_6, sX11_digit_9, sX11_digit_12, sX11_digit_13, sX11_digit_16, sX11_digit_17, sX11_digit_18, sX11_digit_19, sX11_digit_20, sX11_digit_21, sX11_digit_24, sX11_digit_25, sX11_digit_26, sX11_digit_29, sX11_digit_30, sX11_digit_32, sX11_digit_33, kI_i, kL_l, kV_v, am_rv_s, am_kl_i, am_kl_r, am_kl_n, am_kl_l, true_and, and_true, and_self, true_or, or_true, implies_true, forall_const, not_true_eq_false, not_false_eq_true, false_implies, true_implies, if_true, if_false, Bool.true_eq_false, Bool.false_eq_true, ob_457, m_look h hp, m_isDigit h hs, q, bz_f, m_fails0]
  | true => simp (disch := (first | assumption | omega | decide)) only [sX11_digit_0, sX11_digit_1, sX11_digit_4, sX11_digit_5, sX11_digit_6, sX11_digit_9, sX11_digit_12, sX11_digit_13, sX11_digit_16, sX11_digit_17, sX11_digit_18, sX11_digit_19, sX11_digit_20, sX11_digit_21, sX11_digit_24, sX11_digit_25, sX11_digit_26, sX11_digit_29, sX11_digit_30, sX11_digit_32, sX11_digit_33, kI_i, kL_l, kV_v, am_rv_s, am_kl_i, am_kl_r, am_kl_n, am_kl_l, true_and, and_true, and_self, true_or, or_true, implies_true, forall_const, not_true_eq_false, not_false_eq_true, false_implies, true_implies, if_true, if_false, Bool.true_eq_false, Bool.false_eq_true, ob_457, m_look h hp, m_isDigit h hs, q, bz_t, i01, gI_pm0, nI_1, pm_at]
theorem m_takes {x : Int32} (h : PB M b beg T len) (hp : p ≤ len) : am_big (d + 2) mX11_takes [.ref 457, .int x] 488 (pm M p (-1)) Q = if sg T len (skp T len p) = x then Q (some (.int 1)) (pm M (skp T len p + 1) (-1)) else Q (some (.int 0)) (pm M (skp T len p) (nI (skp T len p))) := by
  rw [eX11_takes]
  by_cases q : sg T len (skp T len p) = x
  · simp (disch := (first | assumption | omega | decide)) only [sX11_takes_0, sX11_takes_1, sX11_takes_4, sX11_takes_5, sX11_takes_8, sX11_takes_9, sX11_takes_12, sX11_takes_13, sX11_takes_16, sX11_takes_17, sX11_takes_20, sX11_takes_21, sX11_takes_22, sX11_takes_23, sX11_takes_26, sX11_takes_27, sX11_takes_28, sX11_takes_31, sX11_takes_32, kI_i, kL_l, kV_v, am_rv_s, am_kl_i, am_kl_r, am_kl_n, am_kl_l, true_and, and_true, and_self, true_or, or_true, implies_true, forall_const, not_true_eq_false, not_false_eq_true, false_implies, true_implies, if_true, if_false, Bool.true_eq_false, Bool.false_eq_true, ob_457, m_look h hp, gI_pm1, q, gI_pm0, nI_1, pm_at]
  · simp (disch := (first | assumption | omega | decide)) only [sX11_takes_0, sX11_takes_1, sX11_takes_4, sX11_takes_5, sX11_takes_8, sX11_takes_9, sX11_takes_12, sX11_takes_13, sX11_takes_16, sX11_takes_17, sX11_takes_20, sX11_takes_21, sX11_takes_22, sX11_takes_23, sX11_takes_26, sX11_takes_27, sX11_takes_28, sX11_takes_31, sX11_takes_32, kI_i, kL_l, kV_v, am_rv_s, am_kl_i, am_kl_r, am_kl_n, am_kl_l, true_and, and_true, and_self, true_or, or_true, implies_true, forall_const, not_true_eq_false, not_false_eq_true, false_implies, true_implies, if_true, if_false, Bool.true_eq_false, Bool.false_eq_true, ob_457, m_look h hp, gI_pm1, q, m_fails0, i10]
theorem m_takes1 {x : Int32} {k : Nat} (hk : k ≤ 240) : am_big (d + 2) mX11_takes [.ref 457, .int x] 488 (pm M p (nI k)) Q = Q (some (.int 0)) (pm M p (nI k)) := by
  rw [eX11_takes]
  simp (disch := (first | assumption | omega | decide)) only [sX11_takes_0, sX11_takes_1, sX11_takes_4, sX11_takes_5, sX11_takes_8, sX11_takes_9, sX11_takes_12, sX11_takes_13, sX11_takes_16, sX11_takes_17, sX11_takes_20, sX11_takes_21, sX11_takes_22, sX11_takes_23, sX11_takes_26, sX11_takes_27, sX11_takes_28, sX11_takes_31, sX11_takes_32, kI_i, kL_l, kV_v, am_rv_s, am_kl_i, am_kl_r, am_kl_n, am_kl_l, true_and, and_true, and_self, true_or, or_true, implies_true, forall_const, not_true_eq_false, not_false_eq_true, false_implies, true_implies, if_true, if_false, Bool.true_eq_false, Bool.false_eq_true, ob_457, gI_pm1, nI_m1 (by omega : k < 2 ^ 31), m_fails1 hk, i10]
theorem m_here (h : PB M b beg T len) (hp : p ≤ len) : am_big (d + 1) mX11_here [.ref 457] 488 (pm M p f) Q = Q (some (.int (sg T len p))) (pm M p f) := by
  have hg := h.lim
  have hlen := h.2.2.2.2.1
  have bn : b ≠ 457 := by rcases h.b458 with h | h <;> omega
  rw [eX11_here]
  by_cases hq : p = len
  · subst hq
    simp (disch := (first | assumption | omega | decide)) only [sX11_here_0, sX11_here_1, sX11_here_4, sX11_here_5, sX11_here_8, sX11_here_11, sX11_here_12, sX11_here_15, sX11_here_16, sX11_here_19, sX11_here_20, sX11_here_23, sX11_here_24, sX11_here_25, sX11_here_28, sX11_here_29, sX11_here_32, sX11_here_33, kI_i, kL_l, kV_v, am_rv_s, am_kl_i, am_kl_r, am_kl_n, am_kl_l, true_and, and_true, and_self, true_or, or_true, implies_true, forall_const, not_true_eq_false, not_false_eq_true, false_implies, true_implies, if_true, if_false, Bool.true_eq_false, Bool.false_eq_true, ob_457, gI_pm0, gI_pm, h.2.2.2.1, Int32.le_refl, sg, Nat.lt_irrefl]
  · have e0 : (nI len ≤ nI p) = False := by rw [nI_leE (by omega) (by omega)]; exact eq_false (by omega)
    obtain ⟨b1, b2, b3⟩ := h.by (k := p) (by omega)
    have hlt : p < len := by omega
    simp (disch := (first | assumption | omega | decide)) only [sX11_here_0, sX11_here_1, sX11_here_4, sX11_here_5, sX11_here_8, sX11_here_11, sX11_here_12, sX11_here_15, sX11_here_16, sX11_here_19, sX11_here_20, sX11_here_23, sX11_here_24, sX11_here_25, sX11_here_28, sX11_here_29, sX11_here_32, sX11_here_33, kI_i, kL_l, kV_v, am_rv_s, am_kl_i, am_kl_r, am_kl_n, am_kl_l, true_and, and_true, and_self, true_or, or_true, implies_true, forall_const, not_true_eq_false, not_false_eq_true, false_implies, true_implies, if_true, if_false, Bool.true_eq_false, Bool.false_eq_true, ob_457, gI_pm0, gI_pm, gR_pm, h.2.1, h.2.2.1, h.2.2.2.1, e0, nI_add, h.iw (k := p) (by omega), nI_clamp, sg, hlt, b1]
theorem m_hasX {x : Int32} (h : x = 0 ∨ x = 1 ∨ x = 2 ∨ x = 3 ∨ x = 4) : am_big (d + 1) mX11_hasX [.int x] 488 M Q = Q (some (.int (bz (tlx x)))) M := by
  rw [eX11_hasX]
  rcases h with rfl | rfl | rfl | rfl | rfl <;> simp [sX11_hasX_0, sX11_hasX_1, sX11_hasX_2, sX11_hasX_5, sX11_hasX_6, sX11_hasX_7, sX11_hasX_10, sX11_hasX_11, sX11_hasX_14, sX11_hasX_15, kI_i, kL_l, kV_v, am_rv_s, am_kl_i, am_kl_r, am_kl_n, am_kl_l, true_and, and_true, and_self, true_or, or_true, implies_true, forall_const, not_true_eq_false, not_false_eq_true, false_implies, true_implies, if_true, if_false, Bool.true_eq_false, Bool.false_eq_true, tlx, bz]
/-- the place in a text of its own -/
def spt (l : List Nat) (x : Int32) : Nat → Nat → Int32
  | _, 0 => -1
  | k, j + 1 => if nI (l.getD k 0) = x then nI k else spt l x (k + 1) j
theorem m_spotOf {s : Nat} {x : Int32} (hs : s < 4) : am_big (d + 1) mX11_spotOf [.ref (am_S0 + s), .int x] 488 M Q = Q (some (.int (spt (am_str.getD s []) x 0 (am_str.getD s []).length))) M := by
  have hL : (am_str.getD s []).length ≤ 10 := (by decide : ∀ s, s < 4 → (am_str.getD s []).length ≤ 10) s hs
  have e1 : am_S0 + s - am_S0 = s := by omega
  have e2 : (am_S0 ≤ am_S0 + s ∧ am_S0 + s < am_S0 + 4) = True := eq_true (by omega)
  rw [eX11_spotOf]
  simp only [sX11_spotOf_0, sX11_spotOf_1, sX11_spotOf_3, sX11_spotOf_4, sX11_spotOf_7, sX11_spotOf_10, sX11_spotOf_11, sX11_spotOf_12, sX11_spotOf_15, sX11_spotOf_16, sX11_spotOf_19, sX11_spotOf_20, sX11_spotOf_21, sX11_spotOf_24, sX11_spotOf_27, sX11_spotOf_28, kI_i, kL_l, kV_v, am_rv_s, am_kl_i, am_kl_r, am_kl_n, am_kl_l, true_and, and_true, and_self, true_or, or_true, implies_true, forall_const, not_true_eq_false, not_false_eq_true, false_implies, true_implies, if_true, if_false, Bool.true_eq_false, Bool.false_eq_true]
  have key : ∀ (j k : Nat), k + j = (am_str.getD s []).length → ok d mX11_spotOf 488 Q 488 0 0 2 [some (.ref (am_S0 + s)), some (.int x), some (.int (nI k))] [] M = Q (some (.int (spt (am_str.getD s []) x k j))) M := by
    intro j
    induction j with
    | zero =>
      intro k hk
      rw [sX11_spotOf_2]
      simp only [sX11_spotOf_0, sX11_spotOf_1, sX11_spotOf_3, sX11_spotOf_4, sX11_spotOf_7, sX11_spotOf_10, sX11_spotOf_11, sX11_spotOf_12, sX11_spotOf_15, sX11_spotOf_16, sX11_spotOf_19, sX11_spotOf_20, sX11_spotOf_21, sX11_spotOf_24, sX11_spotOf_27, sX11_spotOf_28, kI_i, kL_l, kV_v, am_rv_s, am_kl_i, am_kl_r, am_kl_n, am_kl_l, true_and, and_true, and_self, true_or, or_true, implies_true, forall_const, not_true_eq_false, not_false_eq_true, false_implies, true_implies, if_true, if_false, Bool.true_eq_false, Bool.false_eq_true, e1, e2, spt, ← hk, Nat.add_zero, Int32.le_refl]
    | succ j ih =>
      intro k hk
      have e0 : (nI (am_str.getD s []).length ≤ nI k) = False := by rw [nI_leE (by omega) (by omega)]; exact eq_false (by omega)
      have e3 : am_sck (am_S0 + s) (nI k) = True := eq_true ⟨by omega, by omega, by rw [e1]; exact vp_in_nI (by omega) (by omega)⟩
      rw [sX11_spotOf_2]
      simp (disch := (first | assumption | omega | decide)) only [sX11_spotOf_0, sX11_spotOf_1, sX11_spotOf_3, sX11_spotOf_4, sX11_spotOf_7, sX11_spotOf_10, sX11_spotOf_11, sX11_spotOf_12, sX11_spotOf_15, sX11_spotOf_16, sX11_spotOf_19, sX11_spotOf_20, sX11_spotOf_21, sX11_spotOf_24, sX11_spotOf_27, sX11_spotOf_28, kI_i, kL_l, kV_v, am_rv_s, am_kl_i, am_kl_r, am_kl_n, am_kl_l, true_and, and_true, and_self, true_or, or_true, implies_true, forall_const, not_true_eq_false, not_false_eq_true, false_implies, true_implies, if_true, if_false, Bool.true_eq_false, Bool.false_eq_true, e1, e2, e0, e3, nI_clamp, nI_1, ih (k + 1) (by omega)]
      by_cases c : nI ((am_str.getD s []).getD k 0) = x
      · simp only [kI_i, kL_l, kV_v, am_rv_s, am_kl_i, am_kl_r, am_kl_n, am_kl_l, true_and, and_true, and_self, true_or, or_true, implies_true, forall_const, not_true_eq_false, not_false_eq_true, false_implies, true_implies, if_true, if_false, Bool.true_eq_false, Bool.false_eq_true, c, spt]
      · simp only [kI_i, kL_l, kV_v, am_rv_s, am_kl_i, am_kl_r, am_kl_n, am_kl_l, true_and, and_true, and_self, true_or, or_true, implies_true, forall_const, not_true_eq_false, not_false_eq_true, false_implies, true_implies, if_true, if_false, Bool.true_eq_false, Bool.false_eq_true, c, spt]
  exact key _ 0 (by omega)
/-- whether a sign is in a text -/
def amg (l : List Nat) (x : Int32) : Nat → Nat → Bool
  | _, 0 => false
  | k, j + 1 => if nI (l.getD k 0) = x then true else amg l x (k + 1) j
theorem m_isAmong {s : Nat} {x : Int32} (hs : s < 4) : am_big (d + 1) mX11_isAmong [.ref (am_S0 + s), .int x] 488 M Q = Q (some (.int (bz (amg (am_str.getD s []) x 0 (am_str.getD s []).length)))) M := by
  have hL : (am_str.getD s []).length ≤ 10 := (by decide : ∀ s, s < 4 → (am_str.getD s []).length ≤ 10) s hs
  have e1 : am_S0 + s - am_S0 = s := by omega
  have e2 : (am_S0 ≤ am_S0 + s ∧ am_S0 + s < am_S0 + 4) = True := eq_true (by omega)
  rw [eX11_isAmong]
  simp only [sX11_isAmong_0, sX11_isAmong_1, sX11_isAmong_3, sX11_isAmong_4, sX11_isAmong_7, sX11_isAmong_10, sX11_isAmong_11, sX11_isAmong_12, sX11_isAmong_15, sX11_isAmong_16, sX11_isAmong_19, sX11_isAmong_20, sX11_isAmong_21, sX11_isAmong_24, sX11_isAmong_27, sX11_isAmong_28, kI_i, kL_l, kV_v, am_rv_s, am_kl_i, am_kl_r, am_kl_n, am_kl_l, true_and, and_true, and_self, true_or, or_true, implies_true, forall_const, not_true_eq_false, not_false_eq_true, false_implies, true_implies, if_true, if_false, Bool.true_eq_false, Bool.false_eq_true]
  have key : ∀ (j k : Nat), k + j = (am_str.getD s []).length → ok d mX11_isAmong 488 Q 488 0 0 2 [some (.ref (am_S0 + s)), some (.int x), some (.int (nI k))] [] M = Q (some (.int (bz (amg (am_str.getD s []) x k j)))) M := by
    intro j
    induction j with
    | zero =>
      intro k hk
      rw [sX11_isAmong_2]
      simp only [sX11_isAmong_0, sX11_isAmong_1, sX11_isAmong_3, sX11_isAmong_4, sX11_isAmong_7, sX11_isAmong_10, sX11_isAmong_11, sX11_isAmong_12, sX11_isAmong_15, sX11_isAmong_16, sX11_isAmong_19, sX11_isAmong_20, sX11_isAmong_21, sX11_isAmong_24, sX11_isAmong_27, sX11_isAmong_28, kI_i, kL_l, kV_v, am_rv_s, am_kl_i, am_kl_r, am_kl_n, am_kl_l, true_and, and_true, and_self, true_or, or_true, implies_true, forall_const, not_true_eq_false, not_false_eq_true, false_implies, true_implies, if_true, if_false, Bool.true_eq_false, Bool.false_eq_true, e1, e2, amg, ← hk, Nat.add_zero, Int32.le_refl, bz_f]
    | succ j ih =>
      intro k hk
      have e0 : (nI (am_str.getD s []).length ≤ nI k) = False := by rw [nI_leE (by omega) (by omega)]; exact eq_false (by omega)
      have e3 : am_sck (am_S0 + s) (nI k) = True := eq_true ⟨by omega, by omega, by rw [e1]; exact vp_in_nI (by omega) (by omega)⟩
      rw [sX11_isAmong_2]
      simp (disch := (first | assumption | omega | decide)) only [sX11_isAmong_0, sX11_isAmong_1, sX11_isAmong_3, sX11_isAmong_4, sX11_isAmong_7, sX11_isAmong_10, sX11_isAmong_11, sX11_isAmong_12, sX11_isAmong_15, sX11_isAmong_16, sX11_isAmong_19, sX11_isAmong_20, sX11_isAmong_21, sX11_isAmong_24, sX11_isAmong_27, sX11_isAmong_28, kI_i, kL_l, kV_v, am_rv_s, am_kl_i, am_kl_r, am_kl_n, am_kl_l, true_and, and_true, and_self, true_or, or_true, implies_true, forall_const, not_true_eq_false, not_false_eq_true, false_implies, true_implies, if_true, if_false, Bool.true_eq_false, Bool.false_eq_true, e1, e2, e0, e3, nI_clamp, nI_1, ih (k + 1) (by omega)]
      by_cases c : nI ((am_str.getD s []).getD k 0) = x
      · simp only [kI_i, kL_l, kV_v, am_rv_s, am_kl_i, am_kl_r, am_kl_n, am_kl_l, true_and, and_true, and_self, true_or, or_true, implies_true, forall_const, not_true_eq_false, not_false_eq_true, false_implies, true_implies, if_true, if_false, Bool.true_eq_false, Bool.false_eq_true, c, amg, bz_t]
      · simp only [kI_i, kL_l, kV_v, am_rv_s, am_kl_i, am_kl_r, am_kl_n, am_kl_l, true_and, and_true, and_self, true_or, or_true, implies_true, forall_const, not_true_eq_false, not_false_eq_true, false_implies, true_implies, if_true, if_false, Bool.true_eq_false, Bool.false_eq_true, c, amg]
  exact key _ 0 (by omega)
theorem spt_sort (x : Int32) : spt [112, 116, 99, 106, 104] x 0 5 = srt x := by
  unfold srt
  simp only [spt]
  by_cases h1 : x = 112
  · subst h1; rfl
  · by_cases h2 : x = 116
    · subst h2; rfl
    · by_cases h3 : x = 99
      · subst h3; rfl
      · by_cases h4 : x = 106
        · subst h4; rfl
        · by_cases h5 : x = 104
          · subst h5; rfl
          · simp only [List.getD_cons_zero, List.getD_cons_succ, show nI 112 = 112 from rfl, show nI 116 = 116 from rfl, show nI 99 = 99 from rfl, show nI 106 = 106 from rfl, show nI 104 = 104 from rfl, Ne.symm h1, Ne.symm h2, Ne.symm h3, Ne.symm h4, Ne.symm h5, h1, h2, h3, h4, h5, if_false]
end
