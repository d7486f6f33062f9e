/-- the reference as it reads a workshop -/
def wq (M : am_M) (g : Nat → Int32) (mr fm hr : Int32) (p : Nat) (f : Int32) : am_M := pm (sI (sI (sI (fl M 462 8 g) 457 22 mr) 457 24 fm) 457 26 hr) p f
section
variable {d : Nat} {M : am_M} {Q : am_Q} {b beg len p q : Nat} {T : Nat → Int32} {f mr fm hr : Int32} {g : Nat → Int32}
theorem PB_wq (h : PB M b beg T len) : PB (sI (sI (sI (fl M 462 8 g) 457 22 mr) 457 24 fm) 457 26 hr) b beg T len := by
  have hb : b ≠ 457 ∧ b ≠ 462 := by rcases h.b458 with h | h <;> omega
  refine PB_of h rfl ?_ ?_ (fun k => ?_)
  · rw [gI_j (by omega), gI_j (by omega), gI_j (by omega), gI_fn (by omega)]
  · rw [gI_j (by omega), gI_j (by omega), gI_j (by omega), gI_fn (by omega)]
  · rw [gI_o hb.1, gI_o hb.1, gI_o hb.1, gI_fn hb.2]
theorem gI_wq0 : gI (wq M g mr fm hr p f) 457 10 = nI p := gI_pm0
theorem gI_wq1 : gI (wq M g mr fm hr p f) 457 11 = f := gI_pm1
theorem gI_wq22 : gI (wq M g mr fm hr p f) 457 22 = mr := by unfold wq; rw [gI_pm (by omega), gI_j (by omega), gI_j (by omega), gI_e]
theorem gI_wq24 : gI (wq M g mr fm hr p f) 457 24 = fm := by unfold wq; rw [gI_pm (by omega), gI_j (by omega), gI_e]
theorem gI_wq26 : gI (wq M g mr fm hr p f) 457 26 = hr := by unfold wq; rw [gI_pm (by omega), gI_e]
theorem gR_wq {a j : Nat} : gR (wq M g mr fm hr p f) a j = gR M a j := rfl
theorem wq_at : sI (wq M g mr fm hr p f) 457 10 (nI q) = wq M g mr fm hr q f := pm_at
theorem wq_22 {v : Int32} : sI (wq M g mr fm hr p f) 457 22 v = wq M g v fm hr p f := by
  unfold wq pm
  rw [sI_com (j := 11) (Or.inr (by omega)), sI_com (j := 10) (Or.inr (by omega)), sI_com (j := 26) (Or.inr (by omega)), sI_com (j := 24) (Or.inr (by omega)), sI_sI]
theorem wq_24 {v : Int32} : sI (wq M g mr fm hr p f) 457 24 v = wq M g mr v hr p f := by
  unfold wq pm
  rw [sI_com (j := 11) (Or.inr (by omega)), sI_com (j := 10) (Or.inr (by omega)), sI_com (j := 26) (Or.inr (by omega)), sI_sI]
theorem wq_26 {v : Int32} : sI (wq M g mr fm hr p f) 457 26 v = wq M g mr fm v p f := by
  unfold wq pm
  rw [sI_com (j := 11) (Or.inr (by omega)), sI_com (j := 10) (Or.inr (by omega)), sI_sI]
theorem wq_g {j : Nat} {v : Int32} (h : j < 8) : sI (wq M g mr fm hr p f) 462 j v = wq M (up g j v) mr fm hr p f := by
  unfold wq pm
  rw [sI_com (j := 11) (Or.inl (by omega)), sI_com (j := 10) (Or.inl (by omega)), sI_com (j := 26) (Or.inl (by omega)), sI_com (j := 24) (Or.inl (by omega)), sI_com (j := 22) (Or.inl (by omega)), sI_fl h]
  rfl
theorem wq_look (h : PB M b beg T len) (hp : p ≤ len) : am_big (d + 1) mX11_look [.ref 457] 488 (wq M g mr fm hr p f) Q = Q (some (.int (sg T len (skp T len p)))) (wq M g mr fm hr (skp T len p) f) := m_look (PB_wq h) hp
theorem wq_fails : am_big (d + 1) mX11_fails [.ref 457] 488 (wq M g mr fm hr p (-1)) Q = Q (some (.int 0)) (wq M g mr fm hr p (nI p)) := m_fails0
theorem wq_number {lo hi : Int32} (h : PB M b beg T len) (hp : p ≤ len) : ∃ v, (∀ d Q, am_big (d + 2) mX11_number [.ref 457, .int lo, .int hi] 488 (wq M g mr fm hr p (-1)) Q = Q (some (.int v)) (wq M g mr fm hr (rbd T len p lo hi).2 (fx (nok T len p lo hi) (rbd T len p lo hi).2))) ∧ (¬ (rbd T len p lo hi).1 = -1 → v = (rbd T len p lo hi).1) := m_number (PB_wq h) hp
def spk (x : Int32) : Int32 := if x = 107 then 0 else if x = 114 then 1 else -1
theorem m_spk {x : Int32} {N : am_M} : am_big (d + 1) mX11_spotOf [.ref 1000002, .int x] 488 N Q = Q (some (.int (spk x))) N := by
  have := m_spotOf (d := d) (Q := Q) (M := N) (s := 2) (x := x) (by omega)
  rw [show (am_S0 + 2 : Nat) = 1000002 from rfl] at this
  rw [this]
  have e : spt (am_str.getD 2 []) x 0 (am_str.getD 2 []).length = spk x := by
    show (if nI 107 = x then nI 0 else if nI 114 = x then nI 1 else -1) = _
    unfold spk
    by_cases h1 : x = 107
    · subst h1; rfl
    · by_cases h2 : x = 114
      · subst h2; rfl
      · rw [if_neg (fun e => h1 e.symm), if_neg (fun e => h2 e.symm), if_neg h1, if_neg h2]
  rw [e]
def hiw (w : Nat) : Int32 := if w = 0 then 31 else 1
def xw (w : Nat) : Int32 := if w = 0 then 107 else 114
theorem n_1 : nI 1 = 1 := rfl
theorem z_m1 : ((0 : Int32) = -1) = False := eq_false (by decide)
theorem o_m1 : ((1 : Int32) = -1) = False := eq_false (by decide)
/-- one item read: its number is wrong -/
theorem l_item_bad {row w : Nat} {met : Int32} (hW : WR M) (h : PB M b beg T len) (hp : p < len) (hw : w < 2) (hrw : row + 1 < 8) (hm : ((met >>> (nI w &&& 31)) &&& 1 = 1) = False) (hb : (rbd T len (p + 1) 0 (hiw w)).1 = -1) : ∃ g', (∀ d Q, ok (d + 2) mX11_readApprentice 488 Q 488 0 0 46 [some (.ref 457), some (.int (nI row)), some (.int met), some (.int (nI w))] [] (wq M g mr fm hr p (-1)) = Q none (wq M g' mr fm hr (rbd T len (p + 1) 0 (hiw w)).2 (nI (rbd T len (p + 1) 0 (hiw w)).2))) ∧ (∀ j, j < row → g' j = g j) := by
  have hlen := h.2.2.2.2.1
  have hle := rbd_le (T := T) (lo := 0) (hi := hiw w) (p := p + 1) (len := len) (by omega)
  obtain ⟨v, hv, -⟩ := wq_number (g := g) (mr := mr) (fm := fm) (hr := hr) (lo := 0) (hi := hiw w) h (p := p + 1) (by omega)
  have en : nok T len (p + 1) 0 (hiw w) = false := by unfold nok; rw [hb]; rfl
  rw [en] at hv
  have ef : fx false (rbd T len (p + 1) 0 (hiw w)).2 = nI (rbd T len (p + 1) 0 (hiw w)).2 := rfl
  rw [ef] at hv
  refine ⟨up g (row + w) v, fun d Q => ?_, fun j hj => up_n (by omega)⟩
  rw [sX11_readApprentice_46]
  have hw' : w = 0 ∨ w = 1 := by omega
  rcases hw' with rfl | rfl
  · have hm' : ((met >>> ((0 : Int32) &&& 31)) &&& 1 = 1) = False := hm
    have e0 : hiw 0 = 31 := rfl
    rw [e0] at hv hle ⊢
    rw [nI_0]
    simp (disch := (first | assumption | omega | decide)) only [sX11_readApprentice_0, sX11_readApprentice_1, sX11_readApprentice_2, sX11_readApprentice_5, sX11_readApprentice_6, sX11_readApprentice_7, sX11_readApprentice_8, sX11_readApprentice_9, sX11_readApprentice_12, sX11_readApprentice_13, sX11_readApprentice_14, sX11_readApprentice_17, sX11_readApprentice_18, sX11_readApprentice_21, sX11_readApprentice_22, sX11_readApprentice_23, sX11_readApprentice_24, sX11_readApprentice_25, sX11_readApprentice_28, sX11_readApprentice_29, sX11_readApprentice_30, sX11_readApprentice_31, sX11_readApprentice_32, sX11_readApprentice_33, sX11_readApprentice_34, sX11_readApprentice_35, sX11_readApprentice_38, sX11_readApprentice_39, sX11_readApprentice_42, sX11_readApprentice_45, sX11_readApprentice_47, sX11_readApprentice_48, sX11_readApprentice_51, sX11_readApprentice_52, sX11_readApprentice_55, sX11_readApprentice_56, sX11_readApprentice_59, sX11_readApprentice_60, sX11_readApprentice_61, sX11_readApprentice_64, sX11_readApprentice_67, sX11_readApprentice_68, sX11_readApprentice_71, sX11_readApprentice_72, sX11_readApprentice_73, sX11_readApprentice_74, sX11_readApprentice_75, sX11_readApprentice_76, sX11_readApprentice_77, sX11_readApprentice_78, sX11_readApprentice_79, sX11_readApprentice_80, sX11_readApprentice_81, sX11_readApprentice_84, sX11_readApprentice_85, sX11_readApprentice_86, sX11_readApprentice_89, sX11_readApprentice_90, sX11_readApprentice_93, sX11_readApprentice_94, sX11_readApprentice_95, sX11_readApprentice_96, sX11_readApprentice_97, sX11_readApprentice_98, sX11_readApprentice_99, sX11_readApprentice_102, sX11_readApprentice_104, sX11_readApprentice_107, sX11_readApprentice_108, sX11_readApprentice_111, sX11_readApprentice_112, sX11_readApprentice_113, sX11_readApprentice_116, sX11_readApprentice_117, sX11_readApprentice_120, sX11_readApprentice_123, sX11_readApprentice_124, sX11_readApprentice_127, sX11_readApprentice_130, sX11_readApprentice_131, sX11_readApprentice_134, kI_i, kL_l, kV_v, am_rv_s, am_kl_i, am_kl_r, am_kl_n, am_kl_l, true_and, and_true, and_self, true_or, or_true, implies_true, forall_const, not_true_eq_false, not_false_eq_true, false_implies, true_implies, if_true, if_false, Bool.true_eq_false, Bool.false_eq_true, ob_457, z_m1, o_m1, i01, gI_wq1, m_has, hm', decide_false, bz_f, gI_wq0, nI_1, wq_at, gR_wq, r_457_18, Int32.add_zero, in_462, iw_462, nI_clamp, hv, wq_g, nI_m1]
    rw [sX11_readApprentice_46]
    simp (disch := (first | assumption | omega | decide)) only [sX11_readApprentice_0, sX11_readApprentice_1, sX11_readApprentice_2, sX11_readApprentice_5, sX11_readApprentice_6, sX11_readApprentice_7, sX11_readApprentice_8, sX11_readApprentice_9, sX11_readApprentice_12, sX11_readApprentice_13, sX11_readApprentice_14, sX11_readApprentice_17, sX11_readApprentice_18, sX11_readApprentice_21, sX11_readApprentice_22, sX11_readApprentice_23, sX11_readApprentice_24, sX11_readApprentice_25, sX11_readApprentice_28, sX11_readApprentice_29, sX11_readApprentice_30, sX11_readApprentice_31, sX11_readApprentice_32, sX11_readApprentice_33, sX11_readApprentice_34, sX11_readApprentice_35, sX11_readApprentice_38, sX11_readApprentice_39, sX11_readApprentice_42, sX11_readApprentice_45, sX11_readApprentice_47, sX11_readApprentice_48, sX11_readApprentice_51, sX11_readApprentice_52, sX11_readApprentice_55, sX11_readApprentice_56, sX11_readApprentice_59, sX11_readApprentice_60, sX11_readApprentice_61, sX11_readApprentice_64, sX11_readApprentice_67, sX11_readApprentice_68, sX11_readApprentice_71, sX11_readApprentice_72, sX11_readApprentice_73, sX11_readApprentice_74, sX11_readApprentice_75, sX11_readApprentice_76, sX11_readApprentice_77, sX11_readApprentice_78, sX11_readApprentice_79, sX11_readApprentice_80, sX11_readApprentice_81, sX11_readApprentice_84, sX11_readApprentice_85, sX11_readApprentice_86, sX11_readApprentice_89, sX11_readApprentice_90, sX11_readApprentice_93, sX11_readApprentice_94, sX11_readApprentice_95, sX11_readApprentice_96, sX11_readApprentice_97, sX11_readApprentice_98, sX11_readApprentice_99, sX11_readApprentice_102, sX11_readApprentice_104, sX11_readApprentice_107, sX11_readApprentice_108, sX11_readApprentice_111, sX11_readApprentice_112, sX11_readApprentice_113, sX11_readApprentice_116, sX11_readApprentice_117, sX11_readApprentice_120, sX11_readApprentice_123, sX11_readApprentice_124, sX11_readApprentice_127, sX11_readApprentice_130, sX11_readApprentice_131, sX11_readApprentice_134, kI_i, kL_l, kV_v, am_rv_s, am_kl_i, am_kl_r, am_kl_n, am_kl_l, true_and, and_true, and_self, true_or, or_true, implies_true, forall_const, not_true_eq_false, not_false_eq_true, false_implies, true_implies, if_true, if_false, Bool.true_eq_false, Bool.false_eq_true, ob_457, z_m1, o_m1, i01, gI_wq1, m_has, hm', decide_false, bz_f, gI_wq0, nI_1, wq_at, gR_wq, r_457_18, Int32.add_zero, in_462, iw_462, nI_clamp, hv, wq_g, nI_m1]
    rfl
  · have hm' : ((met >>> ((1 : Int32) &&& 31)) &&& 1 = 1) = False := hm
    have e0 : hiw 1 = 1 := rfl
    rw [e0] at hv hle ⊢
    rw [n_1]
    simp (disch := (first | assumption | omega | decide)) only [sX11_readApprentice_0, sX11_readApprentice_1, sX11_readApprentice_2, sX11_readApprentice_5, sX11_readApprentice_6, sX11_readApprentice_7, sX11_readApprentice_8, sX11_readApprentice_9, sX11_readApprentice_12, sX11_readApprentice_13, sX11_readApprentice_14, sX11_readApprentice_17, sX11_readApprentice_18, sX11_readApprentice_21, sX11_readApprentice_22, sX11_readApprentice_23, sX11_readApprentice_24, sX11_readApprentice_25, sX11_readApprentice_28, sX11_readApprentice_29, sX11_readApprentice_30, sX11_readApprentice_31, sX11_readApprentice_32, sX11_readApprentice_33, sX11_readApprentice_34, sX11_readApprentice_35, sX11_readApprentice_38, sX11_readApprentice_39, sX11_readApprentice_42, sX11_readApprentice_45, sX11_readApprentice_47, sX11_readApprentice_48, sX11_readApprentice_51, sX11_readApprentice_52, sX11_readApprentice_55, sX11_readApprentice_56, sX11_readApprentice_59, sX11_readApprentice_60, sX11_readApprentice_61, sX11_readApprentice_64, sX11_readApprentice_67, sX11_readApprentice_68, sX11_readApprentice_71, sX11_readApprentice_72, sX11_readApprentice_73, sX11_readApprentice_74, sX11_readApprentice_75, sX11_readApprentice_76, sX11_readApprentice_77, sX11_readApprentice_78, sX11_readApprentice_79, sX11_readApprentice_80, sX11_readApprentice_81, sX11_readApprentice_84, sX11_readApprentice_85, sX11_readApprentice_86, sX11_readApprentice_89, sX11_readApprentice_90, sX11_readApprentice_93, sX11_readApprentice_94, sX11_readApprentice_95, sX11_readApprentice_96, sX11_readApprentice_97, sX11_readApprentice_98, sX11_readApprentice_99, sX11_readApprentice_102, sX11_readApprentice_104, sX11_readApprentice_107, sX11_readApprentice_108, sX11_readApprentice_111, sX11_readApprentice_112, sX11_readApprentice_113, sX11_readApprentice_116, sX11_readApprentice_117, sX11_readApprentice_120, sX11_readApprentice_123, sX11_readApprentice_124, sX11_readApprentice_127, sX11_readApprentice_130, sX11_readApprentice_131, sX11_readApprentice_134, kI_i, kL_l, kV_v, am_rv_s, am_kl_i, am_kl_r, am_kl_n, am_kl_l, true_and, and_true, and_self, true_or, or_true, implies_true, forall_const, not_true_eq_false, not_false_eq_true, false_implies, true_implies, if_true, if_false, Bool.true_eq_false, Bool.false_eq_true, ob_457, z_m1, o_m1, i01, gI_wq1, m_has, hm', decide_false, bz_f, gI_wq0, nI_1, wq_at, gR_wq, r_457_18, Int32.add_zero, in_462, iw_462, nI_clamp, hv, wq_g, nI_m1]
    rw [sX11_readApprentice_46]
    simp (disch := (first | assumption | omega | decide)) only [sX11_readApprentice_0, sX11_readApprentice_1, sX11_readApprentice_2, sX11_readApprentice_5, sX11_readApprentice_6, sX11_readApprentice_7, sX11_readApprentice_8, sX11_readApprentice_9, sX11_readApprentice_12, sX11_readApprentice_13, sX11_readApprentice_14, sX11_readApprentice_17, sX11_readApprentice_18, sX11_readApprentice_21, sX11_readApprentice_22, sX11_readApprentice_23, sX11_readApprentice_24, sX11_readApprentice_25, sX11_readApprentice_28, sX11_readApprentice_29, sX11_readApprentice_30, sX11_readApprentice_31, sX11_readApprentice_32, sX11_readApprentice_33, sX11_readApprentice_34, sX11_readApprentice_35, sX11_readApprentice_38, sX11_readApprentice_39, sX11_readApprentice_42, sX11_readApprentice_45, sX11_readApprentice_47, sX11_readApprentice_48, sX11_readApprentice_51, sX11_readApprentice_52, sX11_readApprentice_55, sX11_readApprentice_56, sX11_readApprentice_59, sX11_readApprentice_60, sX11_readApprentice_61, sX11_readApprentice_64, sX11_readApprentice_67, sX11_readApprentice_68, sX11_readApprentice_71, sX11_readApprentice_72, sX11_readApprentice_73, sX11_readApprentice_74, sX11_readApprentice_75, sX11_readApprentice_76, sX11_readApprentice_77, sX11_readApprentice_78, sX11_readApprentice_79, sX11_readApprentice_80, sX11_readApprentice_81, sX11_readApprentice_84, sX11_readApprentice_85, sX11_readApprentice_86, sX11_readApprentice_89, sX11_readApprentice_90, sX11_readApprentice_93, sX11_readApprentice_94, sX11_readApprentice_95, sX11_readApprentice_96, sX11_readApprentice_97, sX11_readApprentice_98, sX11_readApprentice_99, sX11_readApprentice_102, sX11_readApprentice_104, sX11_readApprentice_107, sX11_readApprentice_108, sX11_readApprentice_111, sX11_readApprentice_112, sX11_readApprentice_113, sX11_readApprentice_116, sX11_readApprentice_117, sX11_readApprentice_120, sX11_readApprentice_123, sX11_readApprentice_124, sX11_readApprentice_127, sX11_readApprentice_130, sX11_readApprentice_131, sX11_readApprentice_134, kI_i, kL_l, kV_v, am_rv_s, am_kl_i, am_kl_r, am_kl_n, am_kl_l, true_and, and_true, and_self, true_or, or_true, implies_true, forall_const, not_true_eq_false, not_false_eq_true, false_implies, true_implies, if_true, if_false, Bool.true_eq_false, Bool.false_eq_true, ob_457, z_m1, o_m1, i01, gI_wq1, m_has, hm', decide_false, bz_f, gI_wq0, nI_1, wq_at, gR_wq, r_457_18, Int32.add_zero, in_462, iw_462, nI_clamp, hv, wq_g, nI_m1]
/-- one item read: it is right -/
theorem l_item_ok {row w : Nat} {met : Int32} (hW : WR M) (h : PB M b beg T len) (hp : p < len) (hw : w < 2) (hrw : row + 1 < 8) (hm : ((met >>> (nI w &&& 31)) &&& 1 = 1) = False) (hb : ¬ (rbd T len (p + 1) 0 (hiw w)).1 = -1) : ok (d + 2) mX11_readApprentice 488 Q 488 0 0 46 [some (.ref 457), some (.int (nI row)), some (.int met), some (.int (nI w))] [] (wq M g mr fm hr p (-1)) = ok (d + 2) mX11_readApprentice 488 Q 488 0 0 46 [some (.ref 457), some (.int (nI row)), some (.int (met ||| 1 <<< (nI w &&& 31))), some (.int (spk (sg T len (skp T len (rbd T len (p + 1) 0 (hiw w)).2))))] [] (wq M (up g (row + w) (rbd T len (p + 1) 0 (hiw w)).1) mr fm hr (skp T len (rbd T len (p + 1) 0 (hiw w)).2) (-1)) := by
  have hlen := h.2.2.2.2.1
  have hle := rbd_le (T := T) (lo := 0) (hi := hiw w) (p := p + 1) (len := len) (by omega)
  obtain ⟨v, hv, hv2⟩ := wq_number (g := g) (mr := mr) (fm := fm) (hr := hr) (lo := 0) (hi := hiw w) h (p := p + 1) (by omega)
  rw [hv2 hb] at hv
  have en : nok T len (p + 1) 0 (hiw w) = true := by unfold nok; simp [hb]
  rw [en] at hv
  have ef : fx true (rbd T len (p + 1) 0 (hiw w)).2 = -1 := rfl
  rw [ef] at hv
  rw [sX11_readApprentice_46]
  have hw' : w = 0 ∨ w = 1 := by omega
  rcases hw' with rfl | rfl
  · have hm' : ((met >>> ((0 : Int32) &&& 31)) &&& 1 = 1) = False := hm
    have e0 : hiw 0 = 31 := rfl
    rw [e0] at hv hle ⊢
    rw [nI_0]
    simp (disch := (first | assumption | omega | decide)) only [sX11_readApprentice_0, sX11_readApprentice_1, sX11_readApprentice_2, sX11_readApprentice_5, sX11_readApprentice_6, sX11_readApprentice_7, sX11_readApprentice_8, sX11_readApprentice_9, sX11_readApprentice_12, sX11_readApprentice_13, sX11_readApprentice_14, sX11_readApprentice_17, sX11_readApprentice_18, sX11_readApprentice_21, sX11_readApprentice_22, sX11_readApprentice_23, sX11_readApprentice_24, sX11_readApprentice_25, sX11_readApprentice_28, sX11_readApprentice_29, sX11_readApprentice_30, sX11_readApprentice_31, sX11_readApprentice_32, sX11_readApprentice_33, sX11_readApprentice_34, sX11_readApprentice_35, sX11_readApprentice_38, sX11_readApprentice_39, sX11_readApprentice_42, sX11_readApprentice_45, sX11_readApprentice_47, sX11_readApprentice_48, sX11_readApprentice_51, sX11_readApprentice_52, sX11_readApprentice_55, sX11_readApprentice_56, sX11_readApprentice_59, sX11_readApprentice_60, sX11_readApprentice_61, sX11_readApprentice_64, sX11_readApprentice_67, sX11_readApprentice_68, sX11_readApprentice_71, sX11_readApprentice_72, sX11_readApprentice_73, sX11_readApprentice_74, sX11_readApprentice_75, sX11_readApprentice_76, sX11_readApprentice_77, sX11_readApprentice_78, sX11_readApprentice_79, sX11_readApprentice_80, sX11_readApprentice_81, sX11_readApprentice_84, sX11_readApprentice_85, sX11_readApprentice_86, sX11_readApprentice_89, sX11_readApprentice_90, sX11_readApprentice_93, sX11_readApprentice_94, sX11_readApprentice_95, sX11_readApprentice_96, sX11_readApprentice_97, sX11_readApprentice_98, sX11_readApprentice_99, sX11_readApprentice_102, sX11_readApprentice_104, sX11_readApprentice_107, sX11_readApprentice_108, sX11_readApprentice_111, sX11_readApprentice_112, sX11_readApprentice_113, sX11_readApprentice_116, sX11_readApprentice_117, sX11_readApprentice_120, sX11_readApprentice_123, sX11_readApprentice_124, sX11_readApprentice_127, sX11_readApprentice_130, sX11_readApprentice_131, sX11_readApprentice_134, kI_i, kL_l, kV_v, am_rv_s, am_kl_i, am_kl_r, am_kl_n, am_kl_l, true_and, and_true, and_self, true_or, or_true, implies_true, forall_const, not_true_eq_false, not_false_eq_true, false_implies, true_implies, if_true, if_false, Bool.true_eq_false, Bool.false_eq_true, ob_457, z_m1, o_m1, i01, gI_wq1, m_has, hm', decide_false, bz_f, gI_wq0, nI_1, wq_at, gR_wq, r_457_18, Int32.add_zero, in_462, iw_462, nI_clamp, hv, wq_g, nI_m1, wq_look h, m_spk]
    rfl
  · have hm' : ((met >>> ((1 : Int32) &&& 31)) &&& 1 = 1) = False := hm
    have e0 : hiw 1 = 1 := rfl
    rw [e0] at hv hle ⊢
    rw [n_1]
    simp (disch := (first | assumption | omega | decide)) only [sX11_readApprentice_0, sX11_readApprentice_1, sX11_readApprentice_2, sX11_readApprentice_5, sX11_readApprentice_6, sX11_readApprentice_7, sX11_readApprentice_8, sX11_readApprentice_9, sX11_readApprentice_12, sX11_readApprentice_13, sX11_readApprentice_14, sX11_readApprentice_17, sX11_readApprentice_18, sX11_readApprentice_21, sX11_readApprentice_22, sX11_readApprentice_23, sX11_readApprentice_24, sX11_readApprentice_25, sX11_readApprentice_28, sX11_readApprentice_29, sX11_readApprentice_30, sX11_readApprentice_31, sX11_readApprentice_32, sX11_readApprentice_33, sX11_readApprentice_34, sX11_readApprentice_35, sX11_readApprentice_38, sX11_readApprentice_39, sX11_readApprentice_42, sX11_readApprentice_45, sX11_readApprentice_47, sX11_readApprentice_48, sX11_readApprentice_51, sX11_readApprentice_52, sX11_readApprentice_55, sX11_readApprentice_56, sX11_readApprentice_59, sX11_readApprentice_60, sX11_readApprentice_61, sX11_readApprentice_64, sX11_readApprentice_67, sX11_readApprentice_68, sX11_readApprentice_71, sX11_readApprentice_72, sX11_readApprentice_73, sX11_readApprentice_74, sX11_readApprentice_75, sX11_readApprentice_76, sX11_readApprentice_77, sX11_readApprentice_78, sX11_readApprentice_79, sX11_readApprentice_80, sX11_readApprentice_81, sX11_readApprentice_84, sX11_readApprentice_85, sX11_readApprentice_86, sX11_readApprentice_89, sX11_readApprentice_90, sX11_readApprentice_93, sX11_readApprentice_94, sX11_readApprentice_95, sX11_readApprentice_96, sX11_readApprentice_97, sX11_readApprentice_98, sX11_readApprentice_99, sX11_readApprentice_102, sX11_readApprentice_104, sX11_readApprentice_107, sX11_readApprentice_108, sX11_readApprentice_111, sX11_readApprentice_112, sX11_readApprentice_113, sX11_readApprentice_116, sX11_readApprentice_117, sX11_readApprentice_120, sX11_readApprentice_123, sX11_readApprentice_124, sX11_readApprentice_127, sX11_readApprentice_130, sX11_readApprentice_131, sX11_readApprentice_134, kI_i, kL_l, kV_v, am_rv_s, am_kl_i, am_kl_r, am_kl_n, am_kl_l, true_and, and_true, and_self, true_or, or_true, implies_true, forall_const, not_true_eq_false, not_false_eq_true, false_implies, true_implies, if_true, if_false, Bool.true_eq_false, Bool.false_eq_true, ob_457, z_m1, o_m1, i01, gI_wq1, m_has, hm', decide_false, bz_f, gI_wq0, nI_1, wq_at, gR_wq, r_457_18, Int32.add_zero, in_462, iw_462, nI_clamp, hv, wq_g, nI_m1, wq_look h, m_spk]
theorem l_item_dup {row w : Nat} {met : Int32} (hw : w < 2) (hm : ((met >>> (nI w &&& 31)) &&& 1 = 1) = True) : ok (d + 2) mX11_readApprentice 488 Q 488 0 0 46 [some (.ref 457), some (.int (nI row)), some (.int met), some (.int (nI w))] [] (wq M g mr fm hr p (-1)) = Q none (wq M g mr fm hr p (nI p)) := by
  rw [sX11_readApprentice_46]
  simp (disch := (first | assumption | omega | decide)) only [sX11_readApprentice_0, sX11_readApprentice_1, sX11_readApprentice_2, sX11_readApprentice_5, sX11_readApprentice_6, sX11_readApprentice_7, sX11_readApprentice_8, sX11_readApprentice_9, sX11_readApprentice_12, sX11_readApprentice_13, sX11_readApprentice_14, sX11_readApprentice_17, sX11_readApprentice_18, sX11_readApprentice_21, sX11_readApprentice_22, sX11_readApprentice_23, sX11_readApprentice_24, sX11_readApprentice_25, sX11_readApprentice_28, sX11_readApprentice_29, sX11_readApprentice_30, sX11_readApprentice_31, sX11_readApprentice_32, sX11_readApprentice_33, sX11_readApprentice_34, sX11_readApprentice_35, sX11_readApprentice_38, sX11_readApprentice_39, sX11_readApprentice_42, sX11_readApprentice_45, sX11_readApprentice_47, sX11_readApprentice_48, sX11_readApprentice_51, sX11_readApprentice_52, sX11_readApprentice_55, sX11_readApprentice_56, sX11_readApprentice_59, sX11_readApprentice_60, sX11_readApprentice_61, sX11_readApprentice_64, sX11_readApprentice_67, sX11_readApprentice_68, sX11_readApprentice_71, sX11_readApprentice_72, sX11_readApprentice_73, sX11_readApprentice_74, sX11_readApprentice_75, sX11_readApprentice_76, sX11_readApprentice_77, sX11_readApprentice_78, sX11_readApprentice_79, sX11_readApprentice_80, sX11_readApprentice_81, sX11_readApprentice_84, sX11_readApprentice_85, sX11_readApprentice_86, sX11_readApprentice_89, sX11_readApprentice_90, sX11_readApprentice_93, sX11_readApprentice_94, sX11_readApprentice_95, sX11_readApprentice_96, sX11_readApprentice_97, sX11_readApprentice_98, sX11_readApprentice_99, sX11_readApprentice_102, sX11_readApprentice_104, sX11_readApprentice_107, sX11_readApprentice_108, sX11_readApprentice_111, sX11_readApprentice_112, sX11_readApprentice_113, sX11_readApprentice_116, sX11_readApprentice_117, sX11_readApprentice_120, sX11_readApprentice_123, sX11_readApprentice_124, sX11_readApprentice_127, sX11_readApprentice_130, sX11_readApprentice_131, sX11_readApprentice_134, kI_i, kL_l, kV_v, am_rv_s, am_kl_i, am_kl_r, am_kl_n, am_kl_l, true_and, and_true, and_self, true_or, or_true, implies_true, forall_const, not_true_eq_false, not_false_eq_true, false_implies, true_implies, if_true, if_false, Bool.true_eq_false, Bool.false_eq_true, ob_457, nI_m1 (by omega : w < 2 ^ 31), gI_wq1, m_has, hm, decide_true, bz_t, i01, wq_fails]
theorem l_item_no {row : Nat} {met : Int32} : ok (d + 2) mX11_readApprentice 488 Q 488 0 0 46 [some (.ref 457), some (.int (nI row)), some (.int met), some (.int (-1))] [] (wq M g mr fm hr p (-1)) = Q none (wq M g mr fm hr p (-1)) := by
  rw [sX11_readApprentice_46]
  simp (disch := (first | assumption | omega | decide)) only [sX11_readApprentice_0, sX11_readApprentice_1, sX11_readApprentice_2, sX11_readApprentice_5, sX11_readApprentice_6, sX11_readApprentice_7, sX11_readApprentice_8, sX11_readApprentice_9, sX11_readApprentice_12, sX11_readApprentice_13, sX11_readApprentice_14, sX11_readApprentice_17, sX11_readApprentice_18, sX11_readApprentice_21, sX11_readApprentice_22, sX11_readApprentice_23, sX11_readApprentice_24, sX11_readApprentice_25, sX11_readApprentice_28, sX11_readApprentice_29, sX11_readApprentice_30, sX11_readApprentice_31, sX11_readApprentice_32, sX11_readApprentice_33, sX11_readApprentice_34, sX11_readApprentice_35, sX11_readApprentice_38, sX11_readApprentice_39, sX11_readApprentice_42, sX11_readApprentice_45, sX11_readApprentice_47, sX11_readApprentice_48, sX11_readApprentice_51, sX11_readApprentice_52, sX11_readApprentice_55, sX11_readApprentice_56, sX11_readApprentice_59, sX11_readApprentice_60, sX11_readApprentice_61, sX11_readApprentice_64, sX11_readApprentice_67, sX11_readApprentice_68, sX11_readApprentice_71, sX11_readApprentice_72, sX11_readApprentice_73, sX11_readApprentice_74, sX11_readApprentice_75, sX11_readApprentice_76, sX11_readApprentice_77, sX11_readApprentice_78, sX11_readApprentice_79, sX11_readApprentice_80, sX11_readApprentice_81, sX11_readApprentice_84, sX11_readApprentice_85, sX11_readApprentice_86, sX11_readApprentice_89, sX11_readApprentice_90, sX11_readApprentice_93, sX11_readApprentice_94, sX11_readApprentice_95, sX11_readApprentice_96, sX11_readApprentice_97, sX11_readApprentice_98, sX11_readApprentice_99, sX11_readApprentice_102, sX11_readApprentice_104, sX11_readApprentice_107, sX11_readApprentice_108, sX11_readApprentice_111, sX11_readApprentice_112, sX11_readApprentice_113, sX11_readApprentice_116, sX11_readApprentice_117, sX11_readApprentice_120, sX11_readApprentice_123, sX11_readApprentice_124, sX11_readApprentice_127, sX11_readApprentice_130, sX11_readApprentice_131, sX11_readApprentice_134, kI_i, kL_l, kV_v, am_rv_s, am_kl_i, am_kl_r, am_kl_n, am_kl_l, true_and, and_true, and_self, true_or, or_true, implies_true, forall_const, not_true_eq_false, not_false_eq_true, false_implies, true_implies, if_true, if_false, Bool.true_eq_false, Bool.false_eq_true]
def ncl (T : Nat → Int32) (len q : Nat) : Prop := ¬ sg T len q = -1 ∧ ¬ sg T len q = 59
theorem spk_x {w : Nat} (hw : w < 2) : spk (xw w) = nI w := by
  have : w = 0 ∨ w = 1 := by omega
  rcases this with rfl | rfl <;> decide
theorem spk_no {x : Int32} (h0 : ¬ x = xw 0) (h1 : ¬ x = xw 1) : spk x = -1 := by
  have h0' : ¬ x = 107 := h0
  have h1' : ¬ x = 114 := h1
  unfold spk
  rw [if_neg h0', if_neg h1']
theorem xw_m1 {w : Nat} (hw : w < 2) : ¬ xw w = -1 ∧ ¬ xw w = 59 := by
  have : w = 0 ∨ w = 1 := by omega
  rcases this with rfl | rfl <;> decide
/-- behind the first item w, which was right -/
theorem l_second {n w v : Nat} {q1 : Nat} {met : Int32} {df : Int32} (hW : WR M) (h : PB M b beg T len) (hq : q1 ≤ len) (hw : w < 2) (hv : v < 2) (hwv : v ≠ w) (hn : n < 4)
    (hm1 : ((met >>> (nI w &&& 31)) &&& 1 = 1) = True) (hm2 : ((met >>> (nI v &&& 31)) &&& 1 = 1) = False) (hm3 : (((met ||| 1 <<< (nI v &&& 31)) >>> (nI v &&& 31)) &&& 1 = 1) = True) (hm4 : (((met ||| 1 <<< (nI v &&& 31)) >>> (nI w &&& 31)) &&& 1 = 1) = True) (hg : g (2 * n + v) = df) :
    ∃ g' q' f', (∀ d Q, ok (d + 2) mX11_readApprentice 488 Q 488 0 0 46 [some (.ref 457), some (.int (nI (2 * n))), some (.int met), some (.int (spk (sg T len (skp T len q1))))] [] (wq M g mr fm hr (skp T len q1) (-1)) = Q none (wq M g' mr fm hr q' f')) ∧ (∀ j, j < 2 * n → g' j = g j) ∧ (((wit T len q1 (xw v) (hiw v) df).1 = false ∧ f' = nI (wit T len q1 (xw v) (hiw v) df).2.2) ∨ ((wit T len q1 (xw v) (hiw v) df).1 = true ∧ f' = nI (skp T len (wit T len q1 (xw v) (hiw v) df).2.2) ∧ ncl T len (skp T len (wit T len q1 (xw v) (hiw v) df).2.2)) ∨ ((wit T len q1 (xw v) (hiw v) df).1 = true ∧ f' = -1 ∧ q' ≤ len ∧ skp T len q' = skp T len (wit T len q1 (xw v) (hiw v) df).2.2 ∧ g' (2 * n + w) = g (2 * n + w) ∧ g' (2 * n + v) = (wit T len q1 (xw v) (hiw v) df).2.1)) := by
  have hs := skp_le' (T := T) hq
  have hlen := h.2.2.2.2.1
  unfold wit
  by_cases c1 : sg T len (skp T len q1) = xw v
  · have hlt := sg_lt c1 (xw_m1 hv).1
    rw [if_pos c1]
    by_cases c2 : (rbd T len (skp T len q1 + 1) 0 (hiw v)).1 = -1
    · obtain ⟨g', e, eg⟩ := l_item_bad (g := g) (mr := mr) (fm := fm) (hr := hr) hW h hlt hv (by omega : 2 * n + 1 < 8) hm2 c2
      refine ⟨g', (rbd T len (skp T len q1 + 1) 0 (hiw v)).2, nI (rbd T len (skp T len q1 + 1) 0 (hiw v)).2, fun d Q => ?_, eg, ?_⟩
      · rw [c1, spk_x hv]; exact e d Q
      · rw [if_pos c2]; exact Or.inl ⟨rfl, rfl⟩
    · have e := fun d (Q : am_Q) => l_item_ok (d := d) (Q := Q) (g := g) (mr := mr) (fm := fm) (hr := hr) hW h hlt hv (by omega : 2 * n + 1 < 8) hm2 c2
      have hle := rbd_le (T := T) (lo := 0) (hi := hiw v) (p := skp T len q1 + 1) (len := len) (by omega)
      rw [if_neg c2]
      generalize rbd T len (skp T len q1 + 1) 0 (hiw v) = r at e hle c2
      have hs2 := skp_le' (T := T) hle
      by_cases c3 : sg T len (skp T len r.2) = xw w
      · refine ⟨up g (2 * n + v) r.1, skp T len r.2, nI (skp T len r.2), fun d Q => ?_, fun j hj => ?_, Or.inr (Or.inl ⟨rfl, rfl, ?_⟩)⟩
        · rw [c1, spk_x hv, e, c3, spk_x hw, l_item_dup hw hm4]
        · exact up_n (by omega)
        · unfold ncl; rw [c3]; exact xw_m1 hw
      · by_cases c4 : sg T len (skp T len r.2) = xw v
        · refine ⟨up g (2 * n + v) r.1, skp T len r.2, nI (skp T len r.2), fun d Q => ?_, fun j hj => ?_, Or.inr (Or.inl ⟨rfl, rfl, ?_⟩)⟩
          · rw [c1, spk_x hv, e, c4, spk_x hv, l_item_dup hv hm3]
          · exact up_n (by omega)
          · unfold ncl; rw [c4]; exact xw_m1 hv
        · have e5 : spk (sg T len (skp T len r.2)) = -1 := by
            have : (w = 0 ∧ v = 1) ∨ (w = 1 ∧ v = 0) := by omega
            rcases this with ⟨rfl, rfl⟩ | ⟨rfl, rfl⟩
            · exact spk_no c3 c4
            · exact spk_no c4 c3
          refine ⟨up g (2 * n + v) r.1, skp T len r.2, -1, fun d Q => ?_, fun j hj => ?_, Or.inr (Or.inr ⟨rfl, rfl, hs2, skp_idem hle, ?_, ?_⟩)⟩
          · rw [c1, spk_x hv, e, e5, l_item_no]
          · exact up_n (by omega)
          · exact up_n (by omega)
          · exact up_e _ _ _
  · rw [if_neg c1]
    by_cases c3 : sg T len (skp T len q1) = xw w
    · refine ⟨g, skp T len q1, nI (skp T len (skp T len q1)), fun d Q => ?_, fun j hj => rfl, Or.inr (Or.inl ⟨rfl, rfl, ?_⟩)⟩
      · rw [c3, spk_x hw, l_item_dup hw hm1, skp_idem hq]
      · unfold ncl; rw [skp_idem hq, c3]; exact xw_m1 hw
    · have e5 : spk (sg T len (skp T len q1)) = -1 := by
        have : (w = 0 ∧ v = 1) ∨ (w = 1 ∧ v = 0) := by omega
        rcases this with ⟨rfl, rfl⟩ | ⟨rfl, rfl⟩
        · exact spk_no c3 c1
        · exact spk_no c1 c3
      refine ⟨g, skp T len q1, -1, fun d Q => ?_, fun j hj => rfl, Or.inr (Or.inr ⟨rfl, rfl, hs, rfl, rfl, hg⟩)⟩
      rw [e5, l_item_no]
theorem m_readApp {n : Nat} (hW : WR M) (h : PB M b beg T len) (hp : p ≤ len) (hn : n < 4) : ∃ g' q' f', (∀ d Q, am_big (d + 3) mX11_readApprentice [.ref 457] 488 (wq M g mr (nI n) hr p (-1)) Q = Q none (wq M g' mr (nI (n + 1)) hr q' f')) ∧ (∀ j, j < 2 * n → g' j = g j) ∧ (((wapp T len p).1 = false ∧ f' = nI (wapp T len p).2.2.2) ∨ ((wapp T len p).1 = true ∧ f' = nI (skp T len (wapp T len p).2.2.2) ∧ ncl T len (skp T len (wapp T len p).2.2.2)) ∨ ((wapp T len p).1 = true ∧ f' = -1 ∧ q' ≤ len ∧ skp T len q' = skp T len (wapp T len p).2.2.2 ∧ g' (2 * n) = (wapp T len p).2.1 ∧ g' (2 * n + 1) = (wapp T len p).2.2.1)) := by
  have hs := skp_le' (T := T) hp
  have e2 : (2 : Int32) * nI n = nI (2 * n) := by rw [show (2 : Int32) = nI 2 from rfl, pk_mul]
  have start : ∀ d (Q : am_Q), am_big (d + 3) mX11_readApprentice [.ref 457] 488 (wq M g mr (nI n) hr p (-1)) Q = ok (d + 2) mX11_readApprentice 488 Q 488 0 0 46 [some (.ref 457), some (.int (nI (2 * n))), some (.int 0), some (.int (spk (sg T len (skp T len p))))] [] (wq M (up (up g (2 * n) 0) (2 * n + 1) 1) mr (nI (n + 1)) hr (skp T len p) (-1)) := fun d Q => by
    rw [eX11_readApprentice]
    simp (disch := (first | assumption | omega | decide)) only [sX11_readApprentice_0, sX11_readApprentice_1, sX11_readApprentice_2, sX11_readApprentice_5, sX11_readApprentice_6, sX11_readApprentice_7, sX11_readApprentice_8, sX11_readApprentice_9, sX11_readApprentice_12, sX11_readApprentice_13, sX11_readApprentice_14, sX11_readApprentice_17, sX11_readApprentice_18, sX11_readApprentice_21, sX11_readApprentice_22, sX11_readApprentice_23, sX11_readApprentice_24, sX11_readApprentice_25, sX11_readApprentice_28, sX11_readApprentice_29, sX11_readApprentice_30, sX11_readApprentice_31, sX11_readApprentice_32, sX11_readApprentice_33, sX11_readApprentice_34, sX11_readApprentice_35, sX11_readApprentice_38, sX11_readApprentice_39, sX11_readApprentice_42, sX11_readApprentice_45, sX11_readApprentice_47, sX11_readApprentice_48, sX11_readApprentice_51, sX11_readApprentice_52, sX11_readApprentice_55, sX11_readApprentice_56, sX11_readApprentice_59, sX11_readApprentice_60, sX11_readApprentice_61, sX11_readApprentice_64, sX11_readApprentice_67, sX11_readApprentice_68, sX11_readApprentice_71, sX11_readApprentice_72, sX11_readApprentice_73, sX11_readApprentice_74, sX11_readApprentice_75, sX11_readApprentice_76, sX11_readApprentice_77, sX11_readApprentice_78, sX11_readApprentice_79, sX11_readApprentice_80, sX11_readApprentice_81, sX11_readApprentice_84, sX11_readApprentice_85, sX11_readApprentice_86, sX11_readApprentice_89, sX11_readApprentice_90, sX11_readApprentice_93, sX11_readApprentice_94, sX11_readApprentice_95, sX11_readApprentice_96, sX11_readApprentice_97, sX11_readApprentice_98, sX11_readApprentice_99, sX11_readApprentice_102, sX11_readApprentice_104, sX11_readApprentice_107, sX11_readApprentice_108, sX11_readApprentice_111, sX11_readApprentice_112, sX11_readApprentice_113, sX11_readApprentice_116, sX11_readApprentice_117, sX11_readApprentice_120, sX11_readApprentice_123, sX11_readApprentice_124, sX11_readApprentice_127, sX11_readApprentice_130, sX11_readApprentice_131, sX11_readApprentice_134, kI_i, kL_l, kV_v, am_rv_s, am_kl_i, am_kl_r, am_kl_n, am_kl_l, true_and, and_true, and_self, true_or, or_true, implies_true, forall_const, not_true_eq_false, not_false_eq_true, false_implies, true_implies, if_true, if_false, Bool.true_eq_false, Bool.false_eq_true, ob_457, gI_wq24, e2, nI_1, wq_24, gR_wq, r_457_18, in_462, iw_462, nI_clamp, wq_g, wq_look h, m_spk]
  have glo : ∀ j, j < 2 * n → up (up g (2 * n) 0) (2 * n + 1) 1 j = g j := fun j hj => by rw [up_n (by omega), up_n (by omega)]
  have g0 : up (up g (2 * n) 0) (2 * n + 1) 1 (2 * n) = 0 := by rw [up_n (by omega), up_e]
  have g1 : up (up g (2 * n) 0) (2 * n + 1) 1 (2 * n + 1) = 1 := up_e _ _ _
  generalize up (up g (2 * n) 0) (2 * n + 1) 1 = g0' at start glo g0 g1
  unfold wapp
  by_cases c1 : sg T len (skp T len p) = 107
  · have hlt := sg_lt c1 (by decide)
    have s0 : spk 107 = nI 0 := spk_x (w := 0) (by omega)
    rw [if_pos c1]
    by_cases c2 : (rbd T len (skp T len p + 1) 0 31).1 = -1
    · obtain ⟨g', e, eg⟩ := l_item_bad (g := g0') (mr := mr) (fm := nI (n + 1)) (hr := hr) (row := 2 * n) (w := 0) (met := 0) hW h hlt (by omega) (by omega : 2 * n + 1 < 8) (eq_false (by decide)) c2
      refine ⟨g', (rbd T len (skp T len p + 1) 0 31).2, nI (rbd T len (skp T len p + 1) 0 31).2, fun d Q => ?_, fun j hj => (eg j hj).trans (glo j hj), ?_⟩
      · rw [start, c1, s0]; exact e d Q
      · rw [if_pos c2]; exact Or.inl ⟨rfl, rfl⟩
    · rw [if_neg c2]
      have e := fun d (Q : am_Q) => l_item_ok (d := d) (Q := Q) (g := g0') (mr := mr) (fm := nI (n + 1)) (hr := hr) (row := 2 * n) (w := 0) (met := 0) hW h hlt (by omega) (by omega : 2 * n + 1 < 8) (eq_false (by decide)) c2
      have hle := rbd_le (T := T) (lo := 0) (hi := 31) (p := skp T len p + 1) (len := len) (by omega)
      have e31 : hiw 0 = 31 := rfl
      rw [e31] at e
      generalize rbd T len (skp T len p + 1) 0 31 = r at e hle c2
      obtain ⟨g', q', f', r1, r2, r3⟩ := l_second (g := up g0' (2 * n + 0) r.1) (mr := mr) (fm := nI (n + 1)) (hr := hr) (w := 0) (v := 1) (met := (0 : Int32) ||| (1 : Int32) <<< (nI 0 &&& 31)) (df := 1) hW h hle (by omega) (by omega) (by omega) hn (eq_true (by decide)) (eq_false (by decide)) (eq_true (by decide)) (eq_true (by decide)) ((up_n (by omega)).trans g1)
      refine ⟨g', q', f', fun d Q => ?_, fun j hj => (r2 j hj).trans ((up_n (by omega)).trans (glo j hj)), ?_⟩
      · rw [start, c1, s0, e]; exact r1 d Q
      · rcases r3 with r3 | r3 | ⟨a1, a2, a3, a4, a5, a6⟩
        · exact Or.inl r3
        · exact Or.inr (Or.inl r3)
        · exact Or.inr (Or.inr ⟨a1, a2, a3, a4, a5.trans (up_e _ _ _), a6⟩)
  · rw [if_neg c1]
    by_cases c1' : sg T len (skp T len p) = 114
    · have hlt := sg_lt c1' (by decide)
      have s0 : spk 114 = nI 1 := spk_x (w := 1) (by omega)
      rw [if_pos c1']
      by_cases c2 : (rbd T len (skp T len p + 1) 0 1).1 = -1
      · obtain ⟨g', e, eg⟩ := l_item_bad (g := g0') (mr := mr) (fm := nI (n + 1)) (hr := hr) (row := 2 * n) (w := 1) (met := 0) hW h hlt (by omega) (by omega : 2 * n + 1 < 8) (eq_false (by decide)) c2
        refine ⟨g', (rbd T len (skp T len p + 1) 0 1).2, nI (rbd T len (skp T len p + 1) 0 1).2, fun d Q => ?_, fun j hj => (eg j hj).trans (glo j hj), ?_⟩
        · rw [start, c1', s0]; exact e d Q
        · rw [if_pos c2]; exact Or.inl ⟨rfl, rfl⟩
      · rw [if_neg c2]
        have e := fun d (Q : am_Q) => l_item_ok (d := d) (Q := Q) (g := g0') (mr := mr) (fm := nI (n + 1)) (hr := hr) (row := 2 * n) (w := 1) (met := 0) hW h hlt (by omega) (by omega : 2 * n + 1 < 8) (eq_false (by decide)) c2
        have hle := rbd_le (T := T) (lo := 0) (hi := 1) (p := skp T len p + 1) (len := len) (by omega)
        have e31 : hiw 1 = 1 := rfl
        rw [e31] at e
        generalize rbd T len (skp T len p + 1) 0 1 = r at e hle c2
        obtain ⟨g', q', f', r1, r2, r3⟩ := l_second (g := up g0' (2 * n + 1) r.1) (mr := mr) (fm := nI (n + 1)) (hr := hr) (w := 1) (v := 0) (met := (0 : Int32) ||| (1 : Int32) <<< (nI 1 &&& 31)) (df := 0) hW h hle (by omega) (by omega) (by omega) hn (eq_true (by decide)) (eq_false (by decide)) (eq_true (by decide)) (eq_true (by decide)) ((up_n (by omega)).trans g0)
        refine ⟨g', q', f', fun d Q => ?_, fun j hj => (r2 j hj).trans ((up_n (by omega)).trans (glo j hj)), ?_⟩
        · rw [start, c1', s0, e]; exact r1 d Q
        · rcases r3 with r3 | r3 | ⟨a1, a2, a3, a4, a5, a6⟩
          · exact Or.inl r3
          · exact Or.inr (Or.inl r3)
          · exact Or.inr (Or.inr ⟨a1, a2, a3, a4, a6, a5.trans (up_e _ _ _)⟩)
    · rw [if_neg c1']
      have e5 : spk (sg T len (skp T len p)) = -1 := spk_no c1 c1'
      refine ⟨g0', skp T len p, -1, fun d Q => ?_, glo, Or.inr (Or.inr ⟨rfl, rfl, hs, rfl, g0, g1⟩)⟩
      rw [start, e5, l_item_no]
end
