/-! the reference reads a making -/
def up {α : Type} (g : Nat → α) (j : Nat) (v : α) : Nat → α := fun k => if k = j then v else g k
theorem up_up {α : Type} (g : Nat → α) (j : Nat) (v w : α) : up (up g j v) j w = up g j w := by funext k; unfold up; split <;> rfl
theorem up_e {α : Type} (g : Nat → α) (j : Nat) (v : α) : up g j v j = v := if_pos rfl
theorem up_n {α : Type} {g : Nat → α} {j k : Nat} {v : α} (h : k ≠ j) : up g j v k = g k := if_neg h
theorem pln_s {T : Nat → Int32} {len j p : Nat} {l : List Dd} : pln T len (j + 1) p l = if (pdd T len p).1 = false then (false, l, (pdd T len p).2.2.2.2) else
    if sg T len (skp T len (pdd T len p).2.2.2.2) = -1 then (true, l ++ [((pdd T len p).2.1, (pdd T len p).2.2.1, (pdd T len p).2.2.2.1)], skp T len (pdd T len p).2.2.2.2) else
    if 16 ≤ l.length + 1 then (false, l ++ [((pdd T len p).2.1, (pdd T len p).2.2.1, (pdd T len p).2.2.2.1)], skp T len (pdd T len p).2.2.2.2) else
    if sg T len (skp T len (pdd T len p).2.2.2.2) = 59 then pln T len j (skp T len (pdd T len p).2.2.2.2 + 1) (l ++ [((pdd T len p).2.1, (pdd T len p).2.2.1, (pdd T len p).2.2.2.1)]) else (false, l ++ [((pdd T len p).2.1, (pdd T len p).2.2.1, (pdd T len p).2.2.2.1)], skp T len (pdd T len p).2.2.2.2) := rfl
def pn (M : am_M) (g : Nat → Int32) (p : Nat) (f : Int32) : am_M := pm (fl M 463 240 g) p f
def up3 (g : Nat → Int32) (r : Nat) (t : Dd) : Nat → Int32 := up (up (up g r t.1) (r + 1) t.2.1) (r + 2) t.2.2
section
variable {d : Nat} {M : am_M} {Q : am_Q} {b beg len p q : Nat} {T : Nat → Int32} {f : Int32} {g : Nat → Int32}
theorem PB_of {N : am_M} (h : PB M b beg T len) (hR : gR N 457 5 = gR M 457 5) (h8 : gI N 457 8 = gI M 457 8) (h9 : gI N 457 9 = gI M 457 9) (hb : ∀ k, gI N b k = gI M b k) : PB N b beg T len := by
  obtain ⟨h1, h2, h3, h4, h5, h6⟩ := h
  exact ⟨h1, hR.trans h2, h8.trans h3, h9.trans h4, h5, fun k hk => by rw [hb]; exact h6 k hk⟩
theorem PB_fl (h : PB M b beg T len) : PB (fl M 463 240 g) b beg T len := PB_of h rfl (gI_fn (by omega)) (gI_fn (by omega)) (fun k => gI_fn (by rcases h.b458 with h | h <;> omega))
theorem pn_s {j : Nat} {v : Int32} (h : j < 240) : sI (pn M g p f) 463 j v = pn M (up g j v) p f := by
  unfold pn pm
  rw [sI_com (M := sI (fl M 463 240 g) 457 10 (nI p)) (Or.inl (by omega)), sI_com (M := fl M 463 240 g) (Or.inl (by omega)), sI_fl h]
  rfl
theorem gR_pn {a j : Nat} : gR (pn M g p f) a j = gR M a j := rfl
theorem gI_pn0 : gI (pn M g p f) 457 10 = nI p := gI_pm0
theorem gI_pn1 : gI (pn M g p f) 457 11 = f := gI_pm1
theorem pn_at : sI (pn M g p f) 457 10 (nI q) = pn M g q f := pm_at
theorem nI_2 (k : Nat) : nI k + 2 = nI (k + 2) := nI_add k 2
theorem srt_in (x : Int32) (h : ¬ srt x = -1) : srt x = 0 ∨ srt x = 1 ∨ srt x = 2 ∨ srt x = 3 ∨ srt x = 4 := by
  revert h
  unfold srt
  repeat' split
  all_goals simp
theorem m_readStep {n : Nat} (hW : WR M) (hn : n < 16) (h : PB M b beg T len) (hp : p ≤ len) : ∃ g', (∀ d Q, am_big (d + 3) mX11_readStep [.ref 457, .int (nI (3 * (64 + n)))] 488 (pn M g p (-1)) Q = Q none (pn M g' (pdd T len p).2.2.2.2 (if (pdd T len p).1 = true then -1 else nI (pdd T len p).2.2.2.2))) ∧ ((pdd T len p).1 = true → g' = up3 g (3 * (64 + n)) ((pdd T len p).2.1, (pdd T len p).2.2.1, (pdd T len p).2.2.2.1)) ∧ (∀ k, k < 3 * (64 + n) → g' k = g k) := by
  have upl : ∀ (g : Nat → Int32) (r k : Nat) (a b c : Int32), k < r → up (up (up g r a) (r + 1) b) (r + 2) c k = g k := fun g r k a b c hk => by rw [up_n (by omega), up_n (by omega), up_n (by omega)]
  have h' := PB_fl (g := g) h
  have hs := skp_le' (T := T) hp
  have hlen := h.2.2.2.2.1
  have lk : ∀ d (Q : am_Q) (g : Nat → Int32) p, p ≤ len → am_big (d + 1) mX11_look [.ref 457] 488 (pn M g p (-1)) Q = Q (some (.int (sg T len (skp T len p)))) (pn M g (skp T len p) (-1)) := fun d Q g p hp => m_look (PB_fl h) hp
  have dg : ∀ d (Q : am_Q) (g : Nat → Int32) p, p ≤ len → am_big (d + 2) mX11_digit [.ref 457] 488 (pn M g p (-1)) Q = if dgt (sg T len (skp T len p)) = true then Q (some (.int (sg T len (skp T len p) - 48))) (pn M g (skp T len p + 1) (-1)) else Q (some (.int 0)) (pn M g (skp T len p) (nI (skp T len p))) := fun d Q g p hp => m_digit (PB_fl h) hp
  have fl0 : ∀ d (Q : am_Q) (g : Nat → Int32) p, am_big (d + 1) mX11_fails [.ref 457] 488 (pn M g p (-1)) Q = Q (some (.int 0)) (pn M g p (nI p)) := fun d Q g p => m_fails0
  have sp : ∀ d (Q : am_Q) (N : am_M) (x : Int32), am_big (d + 1) mX11_spotOf [.ref 1000003, .int x] 488 N Q = Q (some (.int (srt x))) N := fun d Q N x => by
    have := m_spotOf (d := d) (Q := Q) (M := N) (s := 3) (x := x) (by omega)
    rw [← spt_sort]
    exact this
  unfold pdd
  simp only
  by_cases c1 : srt (sg T len (skp T len p)) = -1
  · refine ⟨g, fun d Q => ?_, by simp [c1], fun _ _ => rfl⟩
    rw [eX11_readStep]
    simp (disch := (first | assumption | omega | decide)) only [sX11_readStep_0, sX11_readStep_3, sX11_readStep_4, sX11_readStep_7, sX11_readStep_10, sX11_readStep_11, sX11_readStep_12, sX11_readStep_13, sX11_readStep_16, sX11_readStep_17, sX11_readStep_20, sX11_readStep_21, sX11_readStep_22, sX11_readStep_23, sX11_readStep_24, sX11_readStep_27, sX11_readStep_28, sX11_readStep_29, sX11_readStep_32, sX11_readStep_33, sX11_readStep_36, sX11_readStep_37, sX11_readStep_38, sX11_readStep_39, sX11_readStep_40, sX11_readStep_43, sX11_readStep_44, sX11_readStep_45, sX11_readStep_46, sX11_readStep_47, sX11_readStep_50, sX11_readStep_51, sX11_readStep_52, sX11_readStep_55, sX11_readStep_56, sX11_readStep_57, sX11_readStep_58, sX11_readStep_59, sX11_readStep_60, sX11_readStep_61, sX11_readStep_64, sX11_readStep_65, sX11_readStep_68, sX11_readStep_69, sX11_readStep_72, sX11_readStep_75, sX11_readStep_76, sX11_readStep_79, sX11_readStep_80, sX11_readStep_81, sX11_readStep_82, sX11_readStep_83, sX11_readStep_86, sX11_readStep_87, kI_i, kL_l, kV_v, am_rv_s, am_kl_i, am_kl_r, am_kl_n, am_kl_l, true_and, and_true, and_self, true_or, or_true, implies_true, forall_const, not_true_eq_false, not_false_eq_true, false_implies, true_implies, if_true, if_false, Bool.true_eq_false, Bool.false_eq_true, ob_457, lk, sp, c1, fl0]
  · have hlt := srt_lt c1
    have hs1 := skp_le' (T := T) (p := skp T len p + 1) (len := len) (by omega)
    have hx : ∀ d (Q : am_Q) (N : am_M), am_big (d + 1) mX11_hasX [.int (srt (sg T len (skp T len p)))] 488 N Q = Q (some (.int (bz (tlx (srt (sg T len (skp T len p))))))) N := fun d Q N => m_hasX (srt_in _ c1)
    simp only [c1, if_false]
    generalize hso : srt (sg T len (skp T len p)) = so at c1 hx
    cases c2 : dgt (sg T len (skp T len (skp T len p + 1))) with
    | false =>
      refine ⟨up (up (up g (3 * (64 + n)) so) (3 * (64 + n) + 1) 0) (3 * (64 + n) + 2) 0, fun d Q => ?_, by simp, fun k hk => upl _ _ _ _ _ _ hk⟩
      rw [eX11_readStep]
      simp (disch := (first | assumption | omega | decide)) only [sX11_readStep_0, sX11_readStep_3, sX11_readStep_4, sX11_readStep_7, sX11_readStep_10, sX11_readStep_11, sX11_readStep_12, sX11_readStep_13, sX11_readStep_16, sX11_readStep_17, sX11_readStep_20, sX11_readStep_21, sX11_readStep_22, sX11_readStep_23, sX11_readStep_24, sX11_readStep_27, sX11_readStep_28, sX11_readStep_29, sX11_readStep_32, sX11_readStep_33, sX11_readStep_36, sX11_readStep_37, sX11_readStep_38, sX11_readStep_39, sX11_readStep_40, sX11_readStep_43, sX11_readStep_44, sX11_readStep_45, sX11_readStep_46, sX11_readStep_47, sX11_readStep_50, sX11_readStep_51, sX11_readStep_52, sX11_readStep_55, sX11_readStep_56, sX11_readStep_57, sX11_readStep_58, sX11_readStep_59, sX11_readStep_60, sX11_readStep_61, sX11_readStep_64, sX11_readStep_65, sX11_readStep_68, sX11_readStep_69, sX11_readStep_72, sX11_readStep_75, sX11_readStep_76, sX11_readStep_79, sX11_readStep_80, sX11_readStep_81, sX11_readStep_82, sX11_readStep_83, sX11_readStep_86, sX11_readStep_87, kI_i, kL_l, kV_v, am_rv_s, am_kl_i, am_kl_r, am_kl_n, am_kl_l, true_and, and_true, and_self, true_or, or_true, implies_true, forall_const, not_true_eq_false, not_false_eq_true, false_implies, true_implies, if_true, if_false, Bool.true_eq_false, Bool.false_eq_true, ob_457, lk, sp, hso, c1, gI_pn0, gI_pn1, pn_at, nI_1, nI_2, gR_pn, r_457_19, in_463, iw_463, nI_clamp, pn_s, dg, c2, nI_m1]
    | true =>
      have hlt1 := sg_dg c2
      have hs2 := skp_le' (T := T) (p := skp T len (skp T len p + 1) + 1) (len := len) (by omega)
      cases c3 : tlx so with
      | false =>
        refine ⟨up (up (up g (3 * (64 + n)) so) (3 * (64 + n) + 1) (sg T len (skp T len (skp T len p + 1)) - 48)) (3 * (64 + n) + 2) 0, fun d Q => ?_, fun _ => rfl, fun k hk => upl _ _ _ _ _ _ hk⟩
        rw [eX11_readStep]
        simp (disch := (first | assumption | omega | decide)) only [sX11_readStep_0, sX11_readStep_3, sX11_readStep_4, sX11_readStep_7, sX11_readStep_10, sX11_readStep_11, sX11_readStep_12, sX11_readStep_13, sX11_readStep_16, sX11_readStep_17, sX11_readStep_20, sX11_readStep_21, sX11_readStep_22, sX11_readStep_23, sX11_readStep_24, sX11_readStep_27, sX11_readStep_28, sX11_readStep_29, sX11_readStep_32, sX11_readStep_33, sX11_readStep_36, sX11_readStep_37, sX11_readStep_38, sX11_readStep_39, sX11_readStep_40, sX11_readStep_43, sX11_readStep_44, sX11_readStep_45, sX11_readStep_46, sX11_readStep_47, sX11_readStep_50, sX11_readStep_51, sX11_readStep_52, sX11_readStep_55, sX11_readStep_56, sX11_readStep_57, sX11_readStep_58, sX11_readStep_59, sX11_readStep_60, sX11_readStep_61, sX11_readStep_64, sX11_readStep_65, sX11_readStep_68, sX11_readStep_69, sX11_readStep_72, sX11_readStep_75, sX11_readStep_76, sX11_readStep_79, sX11_readStep_80, sX11_readStep_81, sX11_readStep_82, sX11_readStep_83, sX11_readStep_86, sX11_readStep_87, kI_i, kL_l, kV_v, am_rv_s, am_kl_i, am_kl_r, am_kl_n, am_kl_l, true_and, and_true, and_self, true_or, or_true, implies_true, forall_const, not_true_eq_false, not_false_eq_true, false_implies, true_implies, if_true, if_false, Bool.true_eq_false, Bool.false_eq_true, ob_457, lk, sp, hso, c1, gI_pn0, gI_pn1, pn_at, nI_1, nI_2, gR_pn, r_457_19, in_463, iw_463, nI_clamp, pn_s, dg, c2, hx, c3, bz_f]
      | true =>
        cases c4 : dgt (sg T len (skp T len (skp T len (skp T len p + 1) + 1))) with
        | false =>
          refine ⟨up (up (up g (3 * (64 + n)) so) (3 * (64 + n) + 1) (sg T len (skp T len (skp T len p + 1)) - 48)) (3 * (64 + n) + 2) 0, fun d Q => ?_, by simp, fun k hk => upl _ _ _ _ _ _ hk⟩
          rw [eX11_readStep]
          simp (disch := (first | assumption | omega | decide)) only [sX11_readStep_0, sX11_readStep_3, sX11_readStep_4, sX11_readStep_7, sX11_readStep_10, sX11_readStep_11, sX11_readStep_12, sX11_readStep_13, sX11_readStep_16, sX11_readStep_17, sX11_readStep_20, sX11_readStep_21, sX11_readStep_22, sX11_readStep_23, sX11_readStep_24, sX11_readStep_27, sX11_readStep_28, sX11_readStep_29, sX11_readStep_32, sX11_readStep_33, sX11_readStep_36, sX11_readStep_37, sX11_readStep_38, sX11_readStep_39, sX11_readStep_40, sX11_readStep_43, sX11_readStep_44, sX11_readStep_45, sX11_readStep_46, sX11_readStep_47, sX11_readStep_50, sX11_readStep_51, sX11_readStep_52, sX11_readStep_55, sX11_readStep_56, sX11_readStep_57, sX11_readStep_58, sX11_readStep_59, sX11_readStep_60, sX11_readStep_61, sX11_readStep_64, sX11_readStep_65, sX11_readStep_68, sX11_readStep_69, sX11_readStep_72, sX11_readStep_75, sX11_readStep_76, sX11_readStep_79, sX11_readStep_80, sX11_readStep_81, sX11_readStep_82, sX11_readStep_83, sX11_readStep_86, sX11_readStep_87, kI_i, kL_l, kV_v, am_rv_s, am_kl_i, am_kl_r, am_kl_n, am_kl_l, true_and, and_true, and_self, true_or, or_true, implies_true, forall_const, not_true_eq_false, not_false_eq_true, false_implies, true_implies, if_true, if_false, Bool.true_eq_false, Bool.false_eq_true, ob_457, lk, sp, hso, c1, gI_pn0, gI_pn1, pn_at, nI_1, nI_2, gR_pn, r_457_19, in_463, iw_463, nI_clamp, pn_s, dg, c2, hx, c3, c4, bz_t, i01, up_up]
        | true =>
          refine ⟨up (up (up g (3 * (64 + n)) so) (3 * (64 + n) + 1) (sg T len (skp T len (skp T len p + 1)) - 48)) (3 * (64 + n) + 2) (sg T len (skp T len (skp T len (skp T len p + 1) + 1)) - 48), fun d Q => ?_, fun _ => rfl, fun k hk => upl _ _ _ _ _ _ hk⟩
          rw [eX11_readStep]
          simp (disch := (first | assumption | omega | decide)) only [sX11_readStep_0, sX11_readStep_3, sX11_readStep_4, sX11_readStep_7, sX11_readStep_10, sX11_readStep_11, sX11_readStep_12, sX11_readStep_13, sX11_readStep_16, sX11_readStep_17, sX11_readStep_20, sX11_readStep_21, sX11_readStep_22, sX11_readStep_23, sX11_readStep_24, sX11_readStep_27, sX11_readStep_28, sX11_readStep_29, sX11_readStep_32, sX11_readStep_33, sX11_readStep_36, sX11_readStep_37, sX11_readStep_38, sX11_readStep_39, sX11_readStep_40, sX11_readStep_43, sX11_readStep_44, sX11_readStep_45, sX11_readStep_46, sX11_readStep_47, sX11_readStep_50, sX11_readStep_51, sX11_readStep_52, sX11_readStep_55, sX11_readStep_56, sX11_readStep_57, sX11_readStep_58, sX11_readStep_59, sX11_readStep_60, sX11_readStep_61, sX11_readStep_64, sX11_readStep_65, sX11_readStep_68, sX11_readStep_69, sX11_readStep_72, sX11_readStep_75, sX11_readStep_76, sX11_readStep_79, sX11_readStep_80, sX11_readStep_81, sX11_readStep_82, sX11_readStep_83, sX11_readStep_86, sX11_readStep_87, kI_i, kL_l, kV_v, am_rv_s, am_kl_i, am_kl_r, am_kl_n, am_kl_l, true_and, and_true, and_self, true_or, or_true, implies_true, forall_const, not_true_eq_false, not_false_eq_true, false_implies, true_implies, if_true, if_false, Bool.true_eq_false, Bool.false_eq_true, ob_457, lk, sp, hso, c1, gI_pn0, gI_pn1, pn_at, nI_1, nI_2, gR_pn, r_457_19, in_463, iw_463, nI_clamp, pn_s, dg, c2, hx, c3, c4, bz_t, i01, up_up]
/-- the rows of the plan from r on hold l -/
def plh (g : Nat → Int32) (r : Nat) (l : List Dd) : Prop := ∀ k (t : Dd), l[k]? = some t → g (r + 3 * k) = t.1 ∧ g (r + 3 * k + 1) = t.2.1 ∧ g (r + 3 * k + 2) = t.2.2
theorem plh_add {r : Nat} {l : List Dd} {t : Dd} (h : plh g r l) : plh (up3 g (r + 3 * l.length) t) r (l ++ [t]) := by
  intro k u hk
  unfold up3
  by_cases hkl : k < l.length
  · rw [List.getElem?_append_left hkl] at hk
    obtain ⟨q1, q2, q3⟩ := h k u hk
    refine ⟨?_, ?_, ?_⟩ <;> (rw [up_n (by omega), up_n (by omega), up_n (by omega)]; assumption)
  · have hke : k = l.length := by
      have := (List.getElem?_eq_some_iff.mp hk).1
      simp at this
      omega
    subst hke
    rw [List.getElem?_append_right (Nat.le_refl _), Nat.sub_self] at hk
    cases hk
    refine ⟨?_, ?_, ?_⟩
    · rw [up_n (by omega), up_n (by omega), up_e]
    · rw [up_n (by omega), up_e]
    · rw [up_e]
def ens (M : am_M) (N : am_M) : Prop := Fw (fun a j => (a = 457 ∧ (j = 10 ∨ j = 11)) ∨ (a = 463 ∧ 192 ≤ j) ∨ (a = 464 ∧ j = 4)) M N
theorem ens_pn (hg : ∀ k, k < 192 → g k = gI M 463 k) : ens M (pn M g p f) := by
  unfold pn
  refine Fw.tr ?_ (Fw_pm (Or.inl ⟨rfl, Or.inl rfl⟩) (Or.inl ⟨rfl, Or.inr rfl⟩))
  refine ⟨fun a j hX => ⟨?_, rfl, rfl⟩, fun h => h⟩
  rw [gI_fl']
  split
  · rename_i q
    rw [q.1]
    have : j < 192 := Nat.lt_of_not_le (fun z => hX (Or.inr (Or.inl ⟨q.1, z⟩)))
    exact hg j this
  · rfl
theorem pn_464 {v : Int32} : sI (pn M g p f) 464 4 v = pn (sI M 464 4 v) g p f := by
  unfold pn pm
  rw [sI_com (M := sI (fl M 463 240 g) 457 10 (nI p)) (Or.inl (by omega)), sI_com (M := fl M 463 240 g) (Or.inl (by omega)), sI_flc (by omega)]
theorem ens_464 {v : Int32} : ens M (sI M 464 4 v) := Fw.s (Or.inr (Or.inr ⟨rfl, rfl⟩))
theorem PB_464 {v : Int32} (h : PB M b beg T len) : PB (sI M 464 4 v) b beg T len := PB_of h rfl (gI_o (by omega)) (gI_o (by omega)) (fun k => gI_o (by rcases h.b458 with h | h <;> omega))
theorem up3_lo {r k : Nat} {t : Dd} (h : k < r) : up3 g r t k = g k := by unfold up3; rw [up_n (by omega), up_n (by omega), up_n (by omega)]
theorem gI_pn463 {k : Nat} (h : k < 240) : gI (pn M g p f) 463 k = g k := by unfold pn; rw [gI_pm (by omega), gI_fl h]
theorem gI_pn464 {k : Nat} : gI (pn M g p f) 464 k = gI M 464 k := by unfold pn; rw [gI_pm (by omega), gI_fn (by omega)]
theorem plh_pn {l : List Dd} (h : plh g 192 l) (hl : l.length ≤ 16) : plh (gI (pn M g p f) 463) 192 l := by
  intro k t hk
  have hk' := (List.getElem?_eq_some_iff.mp hk).1
  rw [gI_pn463 (by omega), gI_pn463 (by omega), gI_pn463 (by omega)]
  exact h k t hk
theorem lm_readPlan (hW : WR M) (h : PB M b beg T len) : ∀ (j p : Nat) (l : List Dd) (g : Nat → Int32), p ≤ len → l.length + j = 16 → 0 < j → plh g 192 l → (∀ k, k < 192 → g k = gI M 463 k) → ∃ M', (∀ d Q, ok (d + 3) mX11_readPlan 488 Q 488 0 0 17 [some (.ref 457), some (.int (nI l.length)), some (.int 1)] [] (pn M g p (-1)) = Q none M') ∧ ens M M' ∧ gI M' 457 11 = (if (pln T len j p l).1 = true then -1 else nI (pln T len j p l).2.2) ∧ ((pln T len j p l).1 = true → gI M' 464 4 = nI (pln T len j p l).2.1.length ∧ plh (gI M' 463) 192 (pln T len j p l).2.1) := by
  intro j
  induction j with
  | zero => intro p l g _ _ h0; omega
  | succ j ih =>
    intro p l g hp hl _ hg hg0
    have hlen := h.2.2.2.2.1
    have lk : ∀ d (Q : am_Q) (N : am_M) (g : Nat → Int32) p f, p ≤ len → PB N b beg T len → am_big (d + 1) mX11_look [.ref 457] 488 (pn N g p f) Q = Q (some (.int (sg T len (skp T len p)))) (pn N g (skp T len p) f) := fun d Q N g p f hp hN => m_look (PB_fl hN) hp
    have fl0 : ∀ d (Q : am_Q) (N : am_M) (g : Nat → Int32) p, am_big (d + 1) mX11_fails [.ref 457] 488 (pn N g p (-1)) Q = Q (some (.int 0)) (pn N g p (nI p)) := fun d Q N g p => m_fails0
    have e3 : (3 : Int32) * (64 + nI l.length) = nI (3 * (64 + l.length)) := by
      rw [show (64 : Int32) = nI 64 from rfl, show (3 : Int32) = nI 3 from rfl, nI_add, pk_mul]
    obtain ⟨g', hst, hg', hlo⟩ := m_readStep (g := g) (p := p) hW (by omega : l.length < 16) h hp
    have hpl := pdd_le (T := T) hp
    generalize hr : pdd T len p = r at hpl hst hg'
    obtain ⟨ok1, so, pa, x, q⟩ := r
    have hq : q ≤ len := hpl
    have hs := skp_le' (T := T) hq
    simp only at hst hg'
    cases ok1 with
    | false =>
      have hpn : pln T len (j + 1) p l = (false, l, q) := by simp only [pln, hr, if_true]
      rw [hpn]
      have hg0' : ∀ k, k < 192 → g' k = gI M 463 k := fun k hk => (hlo k (by omega)).trans (hg0 k hk)
      refine ⟨pn M g' q (nI q), fun d Q => ?_, ens_pn hg0', gI_pn1, fun z => by cases z⟩
      rw [sX11_readPlan_17]
      simp (disch := (first | assumption | omega | decide)) only [sX11_readPlan_0, sX11_readPlan_1, sX11_readPlan_2, sX11_readPlan_5, sX11_readPlan_6, sX11_readPlan_7, sX11_readPlan_10, sX11_readPlan_13, sX11_readPlan_14, sX11_readPlan_15, sX11_readPlan_16, sX11_readPlan_18, sX11_readPlan_21, sX11_readPlan_22, sX11_readPlan_23, sX11_readPlan_25, sX11_readPlan_26, sX11_readPlan_27, sX11_readPlan_28, sX11_readPlan_31, sX11_readPlan_32, sX11_readPlan_35, sX11_readPlan_36, sX11_readPlan_39, sX11_readPlan_40, sX11_readPlan_43, sX11_readPlan_44, sX11_readPlan_47, sX11_readPlan_49, sX11_readPlan_52, sX11_readPlan_53, sX11_readPlan_56, sX11_readPlan_57, sX11_readPlan_58, sX11_readPlan_59, sX11_readPlan_62, sX11_readPlan_63, sX11_readPlan_65, sX11_readPlan_68, sX11_readPlan_69, sX11_readPlan_72, sX11_readPlan_73, sX11_readPlan_74, sX11_readPlan_75, sX11_readPlan_78, sX11_readPlan_79, sX11_readPlan_80, sX11_readPlan_83, sX11_readPlan_84, sX11_readPlan_85, sX11_readPlan_88, sX11_readPlan_91, sX11_readPlan_92, sX11_readPlan_95, sX11_readPlan_96, sX11_readPlan_97, sX11_readPlan_98, sX11_readPlan_99, sX11_readPlan_102, sX11_readPlan_103, sX11_readPlan_106, sX11_readPlan_107, sX11_readPlan_110, sX11_readPlan_111, kI_i, kL_l, kV_v, am_rv_s, am_kl_i, am_kl_r, am_kl_n, am_kl_l, true_and, and_true, and_self, true_or, or_true, implies_true, forall_const, not_true_eq_false, not_false_eq_true, false_implies, true_implies, if_true, if_false, Bool.true_eq_false, Bool.false_eq_true, ob_457, i01, e3, hst, gI_pn1, nI_m1]
    | true =>
      have hg' := hg' rfl
      have hgl := plh_add (t := (so, pa, x)) hg
      have e192 : 3 * (64 + l.length) = 192 + 3 * l.length := by omega
      rw [← e192, ← hg'] at hgl
      have hg0' : ∀ k, k < 192 → g' k = gI M 463 k := fun k hk => by rw [hg', up3_lo (by omega)]; exact hg0 k hk
      have ell : (l ++ [(so, pa, x)]).length = l.length + 1 := by simp
      simp only [if_true] at hst
      by_cases c3 : sg T len (skp T len q) = 59
      · have c1 : ¬ sg T len (skp T len q) = -1 := by rw [c3]; decide
        by_cases c2 : l.length + 1 = 16
        · have hpn : pln T len (j + 1) p l = (false, l ++ [(so, pa, x)], skp T len q) := by simp only [pln, hr, c1, if_false, Bool.true_eq_false]; rw [if_pos (show 16 ≤ l.length + 1 by omega)]
          have e16 : nI (l.length + 1) = 16 := by rw [c2]; rfl
          rw [hpn]
          refine ⟨pn M g' (skp T len q) (nI (skp T len q)), fun d Q => ?_, ens_pn hg0', gI_pn1, fun z => by cases z⟩
          rw [sX11_readPlan_17]
          simp (disch := (first | assumption | omega | decide)) only [sX11_readPlan_0, sX11_readPlan_1, sX11_readPlan_2, sX11_readPlan_5, sX11_readPlan_6, sX11_readPlan_7, sX11_readPlan_10, sX11_readPlan_13, sX11_readPlan_14, sX11_readPlan_15, sX11_readPlan_16, sX11_readPlan_18, sX11_readPlan_21, sX11_readPlan_22, sX11_readPlan_23, sX11_readPlan_25, sX11_readPlan_26, sX11_readPlan_27, sX11_readPlan_28, sX11_readPlan_31, sX11_readPlan_32, sX11_readPlan_35, sX11_readPlan_36, sX11_readPlan_39, sX11_readPlan_40, sX11_readPlan_43, sX11_readPlan_44, sX11_readPlan_47, sX11_readPlan_49, sX11_readPlan_52, sX11_readPlan_53, sX11_readPlan_56, sX11_readPlan_57, sX11_readPlan_58, sX11_readPlan_59, sX11_readPlan_62, sX11_readPlan_63, sX11_readPlan_65, sX11_readPlan_68, sX11_readPlan_69, sX11_readPlan_72, sX11_readPlan_73, sX11_readPlan_74, sX11_readPlan_75, sX11_readPlan_78, sX11_readPlan_79, sX11_readPlan_80, sX11_readPlan_83, sX11_readPlan_84, sX11_readPlan_85, sX11_readPlan_88, sX11_readPlan_91, sX11_readPlan_92, sX11_readPlan_95, sX11_readPlan_96, sX11_readPlan_97, sX11_readPlan_98, sX11_readPlan_99, sX11_readPlan_102, sX11_readPlan_103, sX11_readPlan_106, sX11_readPlan_107, sX11_readPlan_110, sX11_readPlan_111, kI_i, kL_l, kV_v, am_rv_s, am_kl_i, am_kl_r, am_kl_n, am_kl_l, true_and, and_true, and_self, true_or, or_true, implies_true, forall_const, not_true_eq_false, not_false_eq_true, false_implies, true_implies, if_true, if_false, Bool.true_eq_false, Bool.false_eq_true, ob_457, i01, e3, hst, gI_pn1, nI_1, lk, c3, e16, fl0]
        · have hlt : skp T len q < len := by
            unfold sg at c3
            split at c3
            · assumption
            · exact absurd c3 (by decide)
          have hpn : pln T len (j + 1) p l = pln T len j (skp T len q + 1) (l ++ [(so, pa, x)]) := by
            rw [pln_s, hr]; simp only [Bool.true_eq_false, if_false]; rw [if_neg c1, if_neg (show ¬ 16 ≤ l.length + 1 by omega), if_pos c3]
          have e16 : (nI (l.length + 1) = 16) = False := by
            rw [show (16 : Int32) = nI 16 from rfl, nI_eqE (by omega) (by omega)]; exact eq_false c2
          rw [hpn]
          obtain ⟨M', e, r1, r2, r3⟩ := ih (skp T len q + 1) (l ++ [(so, pa, x)]) g' (by omega) (by simp; omega) (by omega) hgl hg0'
          rw [ell] at e
          refine ⟨M', fun d Q => ?_, r1, r2, r3⟩
          rw [sX11_readPlan_17]
          simp (disch := (first | assumption | omega | decide)) only [sX11_readPlan_0, sX11_readPlan_1, sX11_readPlan_2, sX11_readPlan_5, sX11_readPlan_6, sX11_readPlan_7, sX11_readPlan_10, sX11_readPlan_13, sX11_readPlan_14, sX11_readPlan_15, sX11_readPlan_16, sX11_readPlan_18, sX11_readPlan_21, sX11_readPlan_22, sX11_readPlan_23, sX11_readPlan_25, sX11_readPlan_26, sX11_readPlan_27, sX11_readPlan_28, sX11_readPlan_31, sX11_readPlan_32, sX11_readPlan_35, sX11_readPlan_36, sX11_readPlan_39, sX11_readPlan_40, sX11_readPlan_43, sX11_readPlan_44, sX11_readPlan_47, sX11_readPlan_49, sX11_readPlan_52, sX11_readPlan_53, sX11_readPlan_56, sX11_readPlan_57, sX11_readPlan_58, sX11_readPlan_59, sX11_readPlan_62, sX11_readPlan_63, sX11_readPlan_65, sX11_readPlan_68, sX11_readPlan_69, sX11_readPlan_72, sX11_readPlan_73, sX11_readPlan_74, sX11_readPlan_75, sX11_readPlan_78, sX11_readPlan_79, sX11_readPlan_80, sX11_readPlan_83, sX11_readPlan_84, sX11_readPlan_85, sX11_readPlan_88, sX11_readPlan_91, sX11_readPlan_92, sX11_readPlan_95, sX11_readPlan_96, sX11_readPlan_97, sX11_readPlan_98, sX11_readPlan_99, sX11_readPlan_102, sX11_readPlan_103, sX11_readPlan_106, sX11_readPlan_107, sX11_readPlan_110, sX11_readPlan_111, kI_i, kL_l, kV_v, am_rv_s, am_kl_i, am_kl_r, am_kl_n, am_kl_l, true_and, and_true, and_self, true_or, or_true, implies_true, forall_const, not_true_eq_false, not_false_eq_true, false_implies, true_implies, if_true, if_false, Bool.true_eq_false, Bool.false_eq_true, ob_457, i01, e3, hst, gI_pn1, gI_pn0, pn_at, nI_1, lk, c3, e16, e]
      · by_cases c1 : sg T len (skp T len q) = -1
        · have hpn : pln T len (j + 1) p l = (true, l ++ [(so, pa, x)], skp T len q) := by simp only [pln, hr, c1, if_true, if_false, Bool.true_eq_false]
          rw [hpn]
          refine ⟨pn (sI M 464 4 (nI (l.length + 1))) g' (skp T len q) (-1), fun d Q => ?_, ?_, gI_pn1, fun _ => ⟨?_, plh_pn hgl (by simp; omega)⟩⟩
          · rw [sX11_readPlan_17]
            have c4 : ((-1 : Int32) = 59) = False := eq_false (by decide)
            have hN := PB_464 (v := nI (l.length + 1)) h
            have i4 : am_iw 488 464 1 4 = True := iw_464 (k := 4) (by omega)
            have cl4 : (4 : Int32).toNatClampNeg = 4 := by decide
            simp (disch := (first | assumption | omega | decide)) only [sX11_readPlan_0, sX11_readPlan_1, sX11_readPlan_2, sX11_readPlan_5, sX11_readPlan_6, sX11_readPlan_7, sX11_readPlan_10, sX11_readPlan_13, sX11_readPlan_14, sX11_readPlan_15, sX11_readPlan_16, sX11_readPlan_18, sX11_readPlan_21, sX11_readPlan_22, sX11_readPlan_23, sX11_readPlan_25, sX11_readPlan_26, sX11_readPlan_27, sX11_readPlan_28, sX11_readPlan_31, sX11_readPlan_32, sX11_readPlan_35, sX11_readPlan_36, sX11_readPlan_39, sX11_readPlan_40, sX11_readPlan_43, sX11_readPlan_44, sX11_readPlan_47, sX11_readPlan_49, sX11_readPlan_52, sX11_readPlan_53, sX11_readPlan_56, sX11_readPlan_57, sX11_readPlan_58, sX11_readPlan_59, sX11_readPlan_62, sX11_readPlan_63, sX11_readPlan_65, sX11_readPlan_68, sX11_readPlan_69, sX11_readPlan_72, sX11_readPlan_73, sX11_readPlan_74, sX11_readPlan_75, sX11_readPlan_78, sX11_readPlan_79, sX11_readPlan_80, sX11_readPlan_83, sX11_readPlan_84, sX11_readPlan_85, sX11_readPlan_88, sX11_readPlan_91, sX11_readPlan_92, sX11_readPlan_95, sX11_readPlan_96, sX11_readPlan_97, sX11_readPlan_98, sX11_readPlan_99, sX11_readPlan_102, sX11_readPlan_103, sX11_readPlan_106, sX11_readPlan_107, sX11_readPlan_110, sX11_readPlan_111, kI_i, kL_l, kV_v, am_rv_s, am_kl_i, am_kl_r, am_kl_n, am_kl_l, true_and, and_true, and_self, true_or, or_true, implies_true, forall_const, not_true_eq_false, not_false_eq_true, false_implies, true_implies, if_true, if_false, Bool.true_eq_false, Bool.false_eq_true, ob_457, i01, e3, hst, gI_pn1, gI_pn0, pn_at, nI_1, lk, c1, c4, gR_pn, r_457_20, i4, cl4, pn_464, skp_idem]
            rw [sX11_readPlan_17]
            simp (disch := (first | assumption | omega | decide)) only [sX11_readPlan_0, sX11_readPlan_1, sX11_readPlan_2, sX11_readPlan_5, sX11_readPlan_6, sX11_readPlan_7, sX11_readPlan_10, sX11_readPlan_13, sX11_readPlan_14, sX11_readPlan_15, sX11_readPlan_16, sX11_readPlan_18, sX11_readPlan_21, sX11_readPlan_22, sX11_readPlan_23, sX11_readPlan_25, sX11_readPlan_26, sX11_readPlan_27, sX11_readPlan_28, sX11_readPlan_31, sX11_readPlan_32, sX11_readPlan_35, sX11_readPlan_36, sX11_readPlan_39, sX11_readPlan_40, sX11_readPlan_43, sX11_readPlan_44, sX11_readPlan_47, sX11_readPlan_49, sX11_readPlan_52, sX11_readPlan_53, sX11_readPlan_56, sX11_readPlan_57, sX11_readPlan_58, sX11_readPlan_59, sX11_readPlan_62, sX11_readPlan_63, sX11_readPlan_65, sX11_readPlan_68, sX11_readPlan_69, sX11_readPlan_72, sX11_readPlan_73, sX11_readPlan_74, sX11_readPlan_75, sX11_readPlan_78, sX11_readPlan_79, sX11_readPlan_80, sX11_readPlan_83, sX11_readPlan_84, sX11_readPlan_85, sX11_readPlan_88, sX11_readPlan_91, sX11_readPlan_92, sX11_readPlan_95, sX11_readPlan_96, sX11_readPlan_97, sX11_readPlan_98, sX11_readPlan_99, sX11_readPlan_102, sX11_readPlan_103, sX11_readPlan_106, sX11_readPlan_107, sX11_readPlan_110, sX11_readPlan_111, kI_i, kL_l, kV_v, am_rv_s, am_kl_i, am_kl_r, am_kl_n, am_kl_l, true_and, and_true, and_self, true_or, or_true, implies_true, forall_const, not_true_eq_false, not_false_eq_true, false_implies, true_implies, if_true, if_false, Bool.true_eq_false, Bool.false_eq_true, ob_457, i01, e3, hst, gI_pn1, gI_pn0, pn_at, nI_1, lk, c1, c4, gR_pn, r_457_20, i4, cl4, pn_464, skp_idem]
          · exact ens_464.tr (ens_pn (fun k hk => by rw [gI_o (by omega)]; exact hg0' k hk))
          · rw [gI_pn464, gI_e, ell]
        · have hpn : pln T len (j + 1) p l = (false, l ++ [(so, pa, x)], skp T len q) := by
            simp only [pln, hr, c1, c3, if_false, Bool.true_eq_false]; split <;> rfl
          rw [hpn]
          refine ⟨pn (sI M 464 4 (nI (l.length + 1))) g' (skp T len q) (nI (skp T len q)), fun d Q => ?_, ?_, gI_pn1, fun z => by cases z⟩
          · rw [sX11_readPlan_17]
            have hN := PB_464 (v := nI (l.length + 1)) h
            have i4 : am_iw 488 464 1 4 = True := iw_464 (k := 4) (by omega)
            have cl4 : (4 : Int32).toNatClampNeg = 4 := by decide
            simp (disch := (first | assumption | omega | decide)) only [sX11_readPlan_0, sX11_readPlan_1, sX11_readPlan_2, sX11_readPlan_5, sX11_readPlan_6, sX11_readPlan_7, sX11_readPlan_10, sX11_readPlan_13, sX11_readPlan_14, sX11_readPlan_15, sX11_readPlan_16, sX11_readPlan_18, sX11_readPlan_21, sX11_readPlan_22, sX11_readPlan_23, sX11_readPlan_25, sX11_readPlan_26, sX11_readPlan_27, sX11_readPlan_28, sX11_readPlan_31, sX11_readPlan_32, sX11_readPlan_35, sX11_readPlan_36, sX11_readPlan_39, sX11_readPlan_40, sX11_readPlan_43, sX11_readPlan_44, sX11_readPlan_47, sX11_readPlan_49, sX11_readPlan_52, sX11_readPlan_53, sX11_readPlan_56, sX11_readPlan_57, sX11_readPlan_58, sX11_readPlan_59, sX11_readPlan_62, sX11_readPlan_63, sX11_readPlan_65, sX11_readPlan_68, sX11_readPlan_69, sX11_readPlan_72, sX11_readPlan_73, sX11_readPlan_74, sX11_readPlan_75, sX11_readPlan_78, sX11_readPlan_79, sX11_readPlan_80, sX11_readPlan_83, sX11_readPlan_84, sX11_readPlan_85, sX11_readPlan_88, sX11_readPlan_91, sX11_readPlan_92, sX11_readPlan_95, sX11_readPlan_96, sX11_readPlan_97, sX11_readPlan_98, sX11_readPlan_99, sX11_readPlan_102, sX11_readPlan_103, sX11_readPlan_106, sX11_readPlan_107, sX11_readPlan_110, sX11_readPlan_111, kI_i, kL_l, kV_v, am_rv_s, am_kl_i, am_kl_r, am_kl_n, am_kl_l, true_and, and_true, and_self, true_or, or_true, implies_true, forall_const, not_true_eq_false, not_false_eq_true, false_implies, true_implies, if_true, if_false, Bool.true_eq_false, Bool.false_eq_true, ob_457, i01, e3, hst, gI_pn1, gI_pn0, pn_at, nI_1, lk, c1, c3, gR_pn, r_457_20, i4, cl4, pn_464, skp_idem, fl0]
            rw [sX11_readPlan_17]
            simp (disch := (first | assumption | omega | decide)) only [sX11_readPlan_0, sX11_readPlan_1, sX11_readPlan_2, sX11_readPlan_5, sX11_readPlan_6, sX11_readPlan_7, sX11_readPlan_10, sX11_readPlan_13, sX11_readPlan_14, sX11_readPlan_15, sX11_readPlan_16, sX11_readPlan_18, sX11_readPlan_21, sX11_readPlan_22, sX11_readPlan_23, sX11_readPlan_25, sX11_readPlan_26, sX11_readPlan_27, sX11_readPlan_28, sX11_readPlan_31, sX11_readPlan_32, sX11_readPlan_35, sX11_readPlan_36, sX11_readPlan_39, sX11_readPlan_40, sX11_readPlan_43, sX11_readPlan_44, sX11_readPlan_47, sX11_readPlan_49, sX11_readPlan_52, sX11_readPlan_53, sX11_readPlan_56, sX11_readPlan_57, sX11_readPlan_58, sX11_readPlan_59, sX11_readPlan_62, sX11_readPlan_63, sX11_readPlan_65, sX11_readPlan_68, sX11_readPlan_69, sX11_readPlan_72, sX11_readPlan_73, sX11_readPlan_74, sX11_readPlan_75, sX11_readPlan_78, sX11_readPlan_79, sX11_readPlan_80, sX11_readPlan_83, sX11_readPlan_84, sX11_readPlan_85, sX11_readPlan_88, sX11_readPlan_91, sX11_readPlan_92, sX11_readPlan_95, sX11_readPlan_96, sX11_readPlan_97, sX11_readPlan_98, sX11_readPlan_99, sX11_readPlan_102, sX11_readPlan_103, sX11_readPlan_106, sX11_readPlan_107, sX11_readPlan_110, sX11_readPlan_111, kI_i, kL_l, kV_v, am_rv_s, am_kl_i, am_kl_r, am_kl_n, am_kl_l, true_and, and_true, and_self, true_or, or_true, implies_true, forall_const, not_true_eq_false, not_false_eq_true, false_implies, true_implies, if_true, if_false, Bool.true_eq_false, Bool.false_eq_true, ob_457, i01, e3, hst, gI_pn1, gI_pn0, pn_at, nI_1, lk, c1, c3, gR_pn, r_457_20, i4, cl4, pn_464, skp_idem, fl0]
          · exact ens_464.tr (ens_pn (fun k hk => by rw [gI_o (by omega)]; exact hg0' k hk))
theorem m_starts {x y : Int32} {a : Nat} : am_big (d + 1) mX11_starts [.ref 457, .ref a, .int x, .int y] 488 M Q = Q none (pm (sI (sI (sR M 457 5 (some a)) 457 8 x) 457 9 y) 0 (-1)) := by
  rw [eX11_starts]
  simp only [sX11_starts_0, sX11_starts_1, sX11_starts_2, sX11_starts_5, sX11_starts_6, sX11_starts_7, sX11_starts_10, sX11_starts_11, sX11_starts_12, sX11_starts_15, sX11_starts_16, sX11_starts_17, sX11_starts_20, sX11_starts_21, sX11_starts_22, sX11_starts_25, kI_i, kL_l, kV_v, am_rv_s, am_kl_i, am_kl_r, am_kl_n, am_kl_l, true_and, and_true, and_self, true_or, or_true, implies_true, forall_const, not_true_eq_false, not_false_eq_true, false_implies, true_implies, if_true, if_false, Bool.true_eq_false, Bool.false_eq_true, ob_457]
  rfl
/-- the signs of a row of bytes -/
def tf (tp : List Nat) (k : Nat) : Int32 := nI (tp.getD k 0)
def tpK (tp : List Nat) : Prop := ∀ c, c ∈ tp → 0 < c ∧ c < 256
theorem PB_tape {tp : List Nat} (h : TM M tp) (hk : tpK tp) : PB (sI (sI (sR M 457 5 (some 458)) 457 8 0) 457 9 (nI tp.length)) 458 0 (tf tp) tp.length := by
  have hl := h.2.1
  refine ⟨Or.inl ⟨rfl, by omega⟩, by rw [gR_sI, gR_sI, gR_e], by rw [gI_j (by omega), gI_e]; rfl, by rw [gI_e], hl, fun k hkl => ?_⟩
  refine ⟨tp[k], (hk _ (List.getElem_mem hkl)).2, ?_, ?_⟩
  · rw [gI_o (by omega), gI_o (by omega), gI_sR, Nat.zero_add, h.2.2 k hkl]
  · unfold tf; rw [List.getD_eq_getElem?_getD, List.getElem?_eq_getElem hkl]; rfl
/-- what a reading of the tape changes in the reference -/
def XR (a j : Nat) : Prop := (a = 457 ∧ (j = 5 ∨ j = 8 ∨ j = 9 ∨ j = 10 ∨ j = 11)) ∨ (a = 463 ∧ 192 ≤ j) ∨ (a = 464 ∧ j = 4)
theorem m_readPlan {tp : List Nat} (hW : WR M) (h : TM M tp) (hk : tpK tp) : ∃ M', (∀ d Q, am_big (d + 4) mX11_readPlan [.ref 457] 488 M Q = Q none M') ∧ Fw XR M M' ∧ gI M' 457 11 = (if (pln (tf tp) tp.length 16 0 []).1 = true then -1 else nI (pln (tf tp) tp.length 16 0 []).2.2) ∧ ((pln (tf tp) tp.length 16 0 []).1 = true → gI M' 464 4 = nI (pln (tf tp) tp.length 16 0 []).2.1.length ∧ plh (gI M' 463) 192 (pln (tf tp) tp.length 16 0 []).2.1) := by
  have hB := PB_tape h hk
  have f0 : Fw XR M (sI (sI (sR M 457 5 (some 458)) 457 8 0) 457 9 (nI tp.length)) := ((Fw.r (by unfold XR; omega) rfl).tr (Fw.s (by unfold XR; omega))).tr (Fw.s (by unfold XR; omega))
  have w0 := f0.2 hW
  generalize hM0 : sI (sI (sR M 457 5 (some 458)) 457 8 0) 457 9 (nI tp.length) = M0 at hB f0 w0
  obtain ⟨M', e, r1, r2, r3⟩ := lm_readPlan w0 hB 16 0 [] (gI M0 463) (by omega) rfl (by omega) (fun k t hk => by cases hk) (fun k _ => rfl)
  have ep : pn M0 (gI M0 463) 0 (-1) = pm M0 0 (-1) := by unfold pn; rw [fl_id (fun k _ => rfl)]
  rw [ep] at e
  refine ⟨M', fun d Q => ?_, f0.tr (r1.mo (fun a j q => by unfold XR; omega)), r2, r3⟩
  rw [eX11_readPlan]
  simp (disch := (first | assumption | omega | decide)) only [sX11_readPlan_0, sX11_readPlan_1, sX11_readPlan_2, sX11_readPlan_5, sX11_readPlan_6, sX11_readPlan_7, sX11_readPlan_10, sX11_readPlan_13, sX11_readPlan_14, sX11_readPlan_15, sX11_readPlan_16, sX11_readPlan_18, sX11_readPlan_21, sX11_readPlan_22, sX11_readPlan_23, sX11_readPlan_25, sX11_readPlan_26, sX11_readPlan_27, sX11_readPlan_28, sX11_readPlan_31, sX11_readPlan_32, sX11_readPlan_35, sX11_readPlan_36, sX11_readPlan_39, sX11_readPlan_40, sX11_readPlan_43, sX11_readPlan_44, sX11_readPlan_47, sX11_readPlan_49, sX11_readPlan_52, sX11_readPlan_53, sX11_readPlan_56, sX11_readPlan_57, sX11_readPlan_58, sX11_readPlan_59, sX11_readPlan_62, sX11_readPlan_63, sX11_readPlan_65, sX11_readPlan_68, sX11_readPlan_69, sX11_readPlan_72, sX11_readPlan_73, sX11_readPlan_74, sX11_readPlan_75, sX11_readPlan_78, sX11_readPlan_79, sX11_readPlan_80, sX11_readPlan_83, sX11_readPlan_84, sX11_readPlan_85, sX11_readPlan_88, sX11_readPlan_91, sX11_readPlan_92, sX11_readPlan_95, sX11_readPlan_96, sX11_readPlan_97, sX11_readPlan_98, sX11_readPlan_99, sX11_readPlan_102, sX11_readPlan_103, sX11_readPlan_106, sX11_readPlan_107, sX11_readPlan_110, sX11_readPlan_111, kI_i, kL_l, kV_v, am_rv_s, am_kl_i, am_kl_r, am_kl_n, am_kl_l, true_and, and_true, and_self, true_or, or_true, implies_true, forall_const, not_true_eq_false, not_false_eq_true, false_implies, true_implies, if_true, if_false, Bool.true_eq_false, Bool.false_eq_true, ob_457, r_457_1, m_starts, h.1, hM0]
  exact e d Q
end
