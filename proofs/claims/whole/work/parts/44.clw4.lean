/-- a clause: its condition's signs, its sum's, whether it has a condition -/
abbrev Cl : Type := List Int32 × List Int32 × Bool
def hdr (T : Nat → Int32) (len p : Nat) : Bool × Nat := if sg T len (skp T len p) = 121 then (if sg T len (skp T len (skp T len p + 1)) = 58 then (true, skp T len (skp T len p + 1) + 1) else (false, skp T len (skp T len p + 1))) else (false, skp T len p)
/-- behind a condition: the question, the sum -/
def qus (T : Nat → Int32) (len : Nat) (ok : Bool) (q : Nat) (cc : List Int32) : Bool × Nat × Cl :=
  if ok = false then (false, q, [], [], false) else if sg T len (skp T len q) = 63 then
    (if (sumL T len 6 (skp T len q + 1)).1 = true then (true, (sumL T len 6 (skp T len q + 1)).2.1, cc, (sumL T len 6 (skp T len q + 1)).2.2, true) else (false, (sumL T len 6 (skp T len q + 1)).2.1, [], [], false))
  else (false, skp T len q, [], [], false)
def clb (T : Nat → Int32) (len p : Nat) : Bool × Nat × Cl :=
  if sg T len p = 33 ∨ sg T len p = 40 then qus T len (conF T len (unitL T len 6) p).1 (conF T len (unitL T len 6) p).2.1 (conF T len (unitL T len 6) p).2.2
  else if (sumL T len 6 p).1 = false then (false, (sumL T len 6 p).2.1, [], [], false)
  else if isCp (sg T len (skp T len (sumL T len 6 p).2.1)) = false then (true, skp T len (sumL T len 6 p).2.1, [], (sumL T len 6 p).2.2, false)
  else qus T len (conS T len (skp T len (sumL T len 6 p).2.1)).1 (conS T len (skp T len (sumL T len 6 p).2.1)).2.1 ((sumL T len 6 p).2.2 ++ (conS T len (skp T len (sumL T len 6 p).2.1)).2.2)
def cla (T : Nat → Int32) (len p : Nat) : Bool × Nat × Cl := if (hdr T len p).1 = true then clb T len (skp T len (hdr T len p).2) else (false, (hdr T len p).2, [], [], false)
/-- a clause's signs, from base on -/
def cco (base : Nat) (c : Cl) : List Int32 := if c.2.2 = true then c.1 ++ [20063, nI (base + c.1.length + 2 + c.2.1.length + 1)] ++ c.2.1 ++ [20000] else c.2.1 ++ [20000]
def cod (cs : List Cl) : List Int32 := cs.foldl (fun l c => l ++ cco l.length c) []
theorem cod_s (cs : List Cl) (c : Cl) : cod (cs ++ [c]) = cod cs ++ cco (cod cs).length c := by unfold cod; rw [List.foldl_append]; rfl
def lawP (T : Nat → Int32) (len : Nat) : Nat → Nat → List Cl → Bool × Nat × List Cl
  | 0, p, cs => (false, p, cs)
  | j + 1, p, cs => if (cla T len p).1 = true then
      (if sg T len (skp T len (cla T len p).2.1) = -1 then (true, skp T len (cla T len p).2.1, cs ++ [(cla T len p).2.2])
      else if sg T len (skp T len (cla T len p).2.1) = 59 then lawP T len j (skp T len (cla T len p).2.1 + 1) (cs ++ [(cla T len p).2.2])
      else (false, skp T len (cla T len p).2.1, cs ++ [(cla T len p).2.2]))
    else (false, (cla T len p).2.1, cs)
section
variable {T : Nat → Int32} {len p : Nat}
theorem hdr_le (hp : p ≤ len) : p ≤ (hdr T len p).2 ∧ (hdr T len p).2 ≤ len ∧ ((hdr T len p).1 = true → p + 2 ≤ (hdr T len p).2) := by
  have hs := skp_le' (T := T) hp
  have hg := skp_ge (T := T) (len := len) (p := p)
  unfold hdr
  split
  · rename_i c
    have hlt := sg_lt c (by decide)
    have hs2 := skp_le' (T := T) (p := skp T len p + 1) (len := len) (by omega)
    have hg2 := skp_ge (T := T) (len := len) (p := skp T len p + 1)
    split
    · rename_i c2
      have hlt2 := sg_lt c2 (by decide)
      simp only
      exact ⟨by omega, by omega, fun _ => by omega⟩
    · simp only
      exact ⟨by omega, by omega, fun z => by cases z⟩
  · simp only
    exact ⟨by omega, by omega, fun z => by cases z⟩
theorem qus_le {ok : Bool} {q : Nat} {cc : List Int32} (hq : q ≤ len) (hc : p + cc.length ≤ q) : (qus T len ok q cc).2.1 ≤ len ∧ q ≤ (qus T len ok q cc).2.1 ∧ ((qus T len ok q cc).1 = true → p + (cco 0 (qus T len ok q cc).2.2).length ≤ (qus T len ok q cc).2.1 + 2) := by
  have hs := skp_le' (T := T) hq
  have hg := skp_ge (T := T) (len := len) (p := q)
  unfold qus
  split
  · exact ⟨hq, Nat.le_refl _, fun z => by cases z⟩
  · split
    · rename_i c
      have hlt := sg_lt c (by decide)
      have h1 := gd_sum (T := T) (len := len) 6 (skp T len q + 1) (by omega)
      split
      · refine ⟨h1.2, by simp only; omega, fun _ => ?_⟩
        unfold cco
        simp only [if_true, List.length_append, List.length_cons, List.length_nil]
        omega
      · exact ⟨h1.2, by simp only; omega, fun z => by cases z⟩
    · exact ⟨hs, hg, fun z => by cases z⟩
theorem cco_len (b : Nat) (c : Cl) : (cco b c).length = (cco 0 c).length := by unfold cco; split <;> simp
theorem clb_le (hp : p ≤ len) : (clb T len p).2.1 ≤ len ∧ p ≤ (clb T len p).2.1 ∧ ((clb T len p).1 = true → p + (cco 0 (clb T len p).2.2).length ≤ (clb T len p).2.1 + 2) := by
  unfold clb
  split
  · have h1 := gd_con (T := T) (gd_unitL (T := T) (len := len) 6) p hp
    have h2 := qus_le (T := T) (p := p) (ok := (conF T len (unitL T len 6) p).1) h1.2 h1.1
    exact ⟨h2.1, by omega, h2.2.2⟩
  · have h1 := gd_sum (T := T) (len := len) 6 p hp
    have hs := skp_le' (T := T) h1.2
    have hg := skp_ge (T := T) (len := len) (p := (sumL T len 6 p).2.1)
    split
    · exact ⟨h1.2, by simp only; omega, fun z => by cases z⟩
    · split
      · refine ⟨hs, by simp only; omega, fun _ => ?_⟩
        unfold cco
        simp only [Bool.false_eq_true, if_false, List.length_append, List.length_cons, List.length_nil]
        omega
      · have h2 := gd_conS (T := T) (skp T len (sumL T len 6 p).2.1) hs
        have h3 := qus_le (T := T) (p := p) (ok := (conS T len (skp T len (sumL T len 6 p).2.1)).1) (cc := (sumL T len 6 p).2.2 ++ (conS T len (skp T len (sumL T len 6 p).2.1)).2.2) h2.2 (by simp only [List.length_append]; omega)
        exact ⟨h3.1, by omega, h3.2.2⟩
theorem cla_le (hp : p ≤ len) : (cla T len p).2.1 ≤ len ∧ p ≤ (cla T len p).2.1 ∧ ((cla T len p).1 = true → p + 2 ≤ (cla T len p).2.1 ∧ ∀ b, p + (cco b (cla T len p).2.2).length ≤ (cla T len p).2.1) := by
  have h0 := hdr_le (T := T) hp
  unfold cla
  split
  · rename_i c
    have hs := skp_le' (T := T) h0.2.1
    have hg := skp_ge (T := T) (len := len) (p := (hdr T len p).2)
    have h1 := clb_le (T := T) hs
    have h2 := h0.2.2 c
    refine ⟨h1.1, by omega, fun z => ⟨by omega, fun b => ?_⟩⟩
    have h3 := h1.2.2 z
    rw [cco_len]
    omega
  · exact ⟨h0.2.1, h0.1, fun z => by cases z⟩
end
section
variable {M : am_M} {len p0 : Nat}
theorem set_mid (A B : List Int32) (x y v : Int32) : (A ++ [x, y] ++ B).set (A.length + 1) v = A ++ [x, v] ++ B := by
  rw [List.append_assoc, List.set_append_right _ _ (by omega), show A.length + 1 - A.length = 1 by omega, List.append_assoc]
  rfl
/-- behind a condition, in the class -/
theorem l_qus {p : Nat} {l : List Int32} (hW : WR M) (h : TP M len p0) (hp : p ≤ len) (base : Nat) (cc : List Int32) (hl : l.length = base) (hlc : base + cc.length + 2 ≤ p) : ∃ l', (∀ d (Q : am_Q) (x y : Int32), 28 ≤ d → ok d mX4_readClause 488 Q 488 0 0 87 [some (.ref 407), some (.ref 1), some (.int x), some (.int y), none] [] (PS M p (l ++ cc)) = Q (some (.int (bz (qus (gI M 2) len true p cc).1))) (PS M (qus (gI M 2) len true p cc).2.1 l')) ∧ ((qus (gI M 2) len true p cc).1 = true → l' = l ++ cco base (qus (gI M 2) len true p cc).2.2) := by
  have hlen := h.2.2.2.1
  have hs := skp_le' (T := gI M 2) hp
  have hg := skp_ge (T := gI M 2) (len := len) (p := p)
  unfold qus
  simp only [Bool.true_eq_false, if_false]
  by_cases c1 : sg (gI M 2) len (skp (gI M 2) len p) = 63
  · have hlt := sg_lt c1 (by decide)
    rw [if_pos c1]
    have hL : (l ++ cc).length = base + cc.length := by simp [hl]
    have hq := gd_sum (T := gI M 2) (len := len) 6 (skp (gI M 2) len p + 1) (by omega)
    have hsum := PSK_sum hW h 6 (by omega)
    have cs : ∀ d, 24 ≤ d → ∀ (Q : am_Q), am_big d mX4_readSum [.ref 407, .ref 1, .int 0] 488 (PS M (skp (gI M 2) len p + 1) (l ++ cc ++ [20063, nI ((l ++ cc).length + 1)])) Q = _ := fun d hd Q => hsum d (by omega) Q (skp (gI M 2) len p + 1) _ (by omega) (by omega) (by simp only [List.length_append, List.length_cons, List.length_nil]; omega)
    have cq : ∀ d, 3 ≤ d → ∀ (Q : am_Q), am_big d mX2_addQuestion [.ref 408] 488 (PS M (skp (gI M 2) len p + 1) (l ++ cc)) Q = Q (some (.int (nI ((l ++ cc).length + 1)))) (PS M (skp (gI M 2) len p + 1) (l ++ cc ++ [20063, nI ((l ++ cc).length + 1)])) := fun d hd Q => by
      obtain ⟨d', rfl⟩ : ∃ d', d = d' + 3 := ⟨d - 3, by omega⟩
      exact c_addQuestion (l := l ++ cc) hW (by omega)
    generalize hr : sumL (gI M 2) len 6 (skp (gI M 2) len p + 1) = r at cs hq
    obtain ⟨ok1, q1, sc⟩ := r
    simp only at cs hq
    cases ok1 with
    | false =>
      refine ⟨l ++ cc ++ [20063, nI ((l ++ cc).length + 1)] ++ sc, fun d Q x y hd => ?_, fun z => by cases z⟩
      obtain ⟨d', rfl⟩ : ∃ d', d = d' + 3 := ⟨d - 3, by omega⟩
      simp (disch := (first | assumption | omega | decide)) only [sX4_readClause_0, sX4_readClause_1, sX4_readClause_3, sX4_readClause_6, sX4_readClause_9, sX4_readClause_10, sX4_readClause_12, sX4_readClause_15, sX4_readClause_18, sX4_readClause_19, sX4_readClause_20, sX4_readClause_21, sX4_readClause_24, sX4_readClause_25, sX4_readClause_26, sX4_readClause_28, sX4_readClause_31, sX4_readClause_32, sX4_readClause_34, sX4_readClause_37, sX4_readClause_38, sX4_readClause_41, sX4_readClause_42, sX4_readClause_43, sX4_readClause_44, sX4_readClause_47, sX4_readClause_48, sX4_readClause_49, sX4_readClause_50, sX4_readClause_53, sX4_readClause_56, sX4_readClause_57, sX4_readClause_58, sX4_readClause_59, sX4_readClause_62, sX4_readClause_65, sX4_readClause_68, sX4_readClause_69, sX4_readClause_72, sX4_readClause_75, sX4_readClause_76, sX4_readClause_77, sX4_readClause_78, sX4_readClause_79, sX4_readClause_80, sX4_readClause_81, sX4_readClause_84, sX4_readClause_87, sX4_readClause_88, sX4_readClause_90, sX4_readClause_93, sX4_readClause_96, sX4_readClause_97, sX4_readClause_98, sX4_readClause_99, sX4_readClause_102, sX4_readClause_105, sX4_readClause_107, sX4_readClause_108, sX4_readClause_109, sX4_readClause_110, sX4_readClause_113, sX4_readClause_116, sX4_readClause_117, sX4_readClause_118, sX4_readClause_119, sX4_readClause_122, sX4_readClause_125, sX4_readClause_126, sX4_readClause_129, sX4_readClause_131, sX4_readClause_134, sX4_readClause_135, kI_i, kL_l, kV_v, am_rv_s, am_kl_i, am_kl_r, am_kl_n, am_kl_l, true_and, and_true, and_self, true_or, or_true, implies_true, forall_const, not_true_eq_false, not_false_eq_true, false_implies, true_implies, if_true, if_false, Bool.true_eq_false, Bool.false_eq_true, ob_407, ob_1, PS_accept h, c1, i01, gR_PS, r_407_0, ob_408, cq, cs, bz_f]
    | true =>
      have hT : (l ++ cc ++ [20063, nI ((l ++ cc).length + 1)] ++ sc).length = base + cc.length + 2 + sc.length := by simp only [List.length_append, List.length_cons, List.length_nil]; omega
      have c3 : ∀ d, 2 ≤ d → ∀ (Q : am_Q), am_big d mX2_addStop [.ref 408] 488 (PS M q1 (l ++ cc ++ [20063, nI ((l ++ cc).length + 1)] ++ sc)) Q = Q none (PS M q1 (l ++ cc ++ [20063, nI ((l ++ cc).length + 1)] ++ sc ++ [20000])) := fun d hd Q => by
        obtain ⟨d', rfl⟩ : ∃ d', d = d' + 2 := ⟨d - 2, by omega⟩
        exact c_addStop (l := l ++ cc ++ [20063, nI ((l ++ cc).length + 1)] ++ sc) hW (by omega)
      have hT2 : (l ++ cc ++ [20063, nI ((l ++ cc).length + 1)] ++ sc ++ [20000]).length = base + cc.length + 2 + sc.length + 1 := by rw [List.length_append, hT]; rfl
      have c4 : ∀ d, 1 ≤ d → ∀ (Q : am_Q), am_big d mX2_setNextClause [.ref 408, .int (nI ((l ++ cc).length + 1))] 488 (PS M q1 (l ++ cc ++ [20063, nI ((l ++ cc).length + 1)] ++ sc ++ [20000])) Q = Q none (PS M q1 ((l ++ cc ++ [20063, nI ((l ++ cc).length + 1)] ++ sc ++ [20000]).set ((l ++ cc).length + 1) (nI (l ++ cc ++ [20063, nI ((l ++ cc).length + 1)] ++ sc ++ [20000]).length))) := fun d hd Q => by
        obtain ⟨d', rfl⟩ : ∃ d', d = d' + 1 := ⟨d - 1, by omega⟩
        exact c_setNext (k := (l ++ cc).length + 1) (l := l ++ cc ++ [20063, nI ((l ++ cc).length + 1)] ++ sc ++ [20000]) hW (by omega) (by omega)
      refine ⟨l ++ cc ++ [20063, nI (base + cc.length + 2 + sc.length + 1)] ++ (sc ++ [20000]), fun d Q x y hd => ?_, fun _ => ?_⟩
      · obtain ⟨d', rfl⟩ : ∃ d', d = d' + 3 := ⟨d - 3, by omega⟩
        simp (disch := (first | assumption | omega | decide)) only [sX4_readClause_0, sX4_readClause_1, sX4_readClause_3, sX4_readClause_6, sX4_readClause_9, sX4_readClause_10, sX4_readClause_12, sX4_readClause_15, sX4_readClause_18, sX4_readClause_19, sX4_readClause_20, sX4_readClause_21, sX4_readClause_24, sX4_readClause_25, sX4_readClause_26, sX4_readClause_28, sX4_readClause_31, sX4_readClause_32, sX4_readClause_34, sX4_readClause_37, sX4_readClause_38, sX4_readClause_41, sX4_readClause_42, sX4_readClause_43, sX4_readClause_44, sX4_readClause_47, sX4_readClause_48, sX4_readClause_49, sX4_readClause_50, sX4_readClause_53, sX4_readClause_56, sX4_readClause_57, sX4_readClause_58, sX4_readClause_59, sX4_readClause_62, sX4_readClause_65, sX4_readClause_68, sX4_readClause_69, sX4_readClause_72, sX4_readClause_75, sX4_readClause_76, sX4_readClause_77, sX4_readClause_78, sX4_readClause_79, sX4_readClause_80, sX4_readClause_81, sX4_readClause_84, sX4_readClause_87, sX4_readClause_88, sX4_readClause_90, sX4_readClause_93, sX4_readClause_96, sX4_readClause_97, sX4_readClause_98, sX4_readClause_99, sX4_readClause_102, sX4_readClause_105, sX4_readClause_107, sX4_readClause_108, sX4_readClause_109, sX4_readClause_110, sX4_readClause_113, sX4_readClause_116, sX4_readClause_117, sX4_readClause_118, sX4_readClause_119, sX4_readClause_122, sX4_readClause_125, sX4_readClause_126, sX4_readClause_129, sX4_readClause_131, sX4_readClause_134, sX4_readClause_135, kI_i, kL_l, kV_v, am_rv_s, am_kl_i, am_kl_r, am_kl_n, am_kl_l, true_and, and_true, and_self, true_or, or_true, implies_true, forall_const, not_true_eq_false, not_false_eq_true, false_implies, true_implies, if_true, if_false, Bool.true_eq_false, Bool.false_eq_true, ob_407, ob_1, PS_accept h, c1, i01, gR_PS, r_407_0, ob_408, cq, cs, bz_t, c3, c4]
        rw [hT2, List.append_assoc (l ++ cc ++ _) sc, set_mid]
      · unfold cco
        simp only [if_true, List.append_assoc]
  · rw [if_neg c1]
    refine ⟨l ++ cc, fun d Q x y hd => ?_, fun z => by cases z⟩
    obtain ⟨d', rfl⟩ : ∃ d', d = d' + 3 := ⟨d - 3, by omega⟩
    simp (disch := (first | assumption | omega | decide)) only [sX4_readClause_0, sX4_readClause_1, sX4_readClause_3, sX4_readClause_6, sX4_readClause_9, sX4_readClause_10, sX4_readClause_12, sX4_readClause_15, sX4_readClause_18, sX4_readClause_19, sX4_readClause_20, sX4_readClause_21, sX4_readClause_24, sX4_readClause_25, sX4_readClause_26, sX4_readClause_28, sX4_readClause_31, sX4_readClause_32, sX4_readClause_34, sX4_readClause_37, sX4_readClause_38, sX4_readClause_41, sX4_readClause_42, sX4_readClause_43, sX4_readClause_44, sX4_readClause_47, sX4_readClause_48, sX4_readClause_49, sX4_readClause_50, sX4_readClause_53, sX4_readClause_56, sX4_readClause_57, sX4_readClause_58, sX4_readClause_59, sX4_readClause_62, sX4_readClause_65, sX4_readClause_68, sX4_readClause_69, sX4_readClause_72, sX4_readClause_75, sX4_readClause_76, sX4_readClause_77, sX4_readClause_78, sX4_readClause_79, sX4_readClause_80, sX4_readClause_81, sX4_readClause_84, sX4_readClause_87, sX4_readClause_88, sX4_readClause_90, sX4_readClause_93, sX4_readClause_96, sX4_readClause_97, sX4_readClause_98, sX4_readClause_99, sX4_readClause_102, sX4_readClause_105, sX4_readClause_107, sX4_readClause_108, sX4_readClause_109, sX4_readClause_110, sX4_readClause_113, sX4_readClause_116, sX4_readClause_117, sX4_readClause_118, sX4_readClause_119, sX4_readClause_122, sX4_readClause_125, sX4_readClause_126, sX4_readClause_129, sX4_readClause_131, sX4_readClause_134, sX4_readClause_135, kI_i, kL_l, kV_v, am_rv_s, am_kl_i, am_kl_r, am_kl_n, am_kl_l, true_and, and_true, and_self, true_or, or_true, implies_true, forall_const, not_true_eq_false, not_false_eq_true, false_implies, true_implies, if_true, if_false, Bool.true_eq_false, Bool.false_eq_true, ob_1, PS_accept h, c1, bz_f]
theorem qus_f {T : Nat → Int32} {q : Nat} {cc : List Int32} : qus T len false q cc = (false, q, [], [], false) := rfl
theorem c_readClause {p : Nat} {l : List Int32} (hW : WR M) (h : TP M len p0) (hp : p ≤ len) (hl : l.length ≤ p) : ∃ l', (∀ d (Q : am_Q), 29 ≤ d → am_big d mX4_readClause [.ref 407, .ref 1] 488 (PS M p l) Q = Q (some (.int (bz (cla (gI M 2) len p).1))) (PS M (cla (gI M 2) len p).2.1 l')) ∧ ((cla (gI M 2) len p).1 = true → l' = l ++ cco l.length (cla (gI M 2) len p).2.2) := by
  have hlen := h.2.2.2.1
  have hs := skp_le' (T := gI M 2) hp
  have hh := hdr_le (T := gI M 2) hp
  unfold cla
  have entry : ∀ d (Q : am_Q), 29 ≤ d → am_big d mX4_readClause [.ref 407, .ref 1] 488 (PS M p l) Q = if (hdr (gI M 2) len p).1 = true then ok (d - 1) mX4_readClause 488 Q 488 0 0 20 [some (.ref 407), some (.ref 1), none, none, none] [] (PS M (hdr (gI M 2) len p).2 l) else Q (some (.int 0)) (PS M (hdr (gI M 2) len p).2 l) := fun d Q hd => by
    obtain ⟨d', rfl⟩ : ∃ d', d = d' + 3 := ⟨d - 3, by omega⟩
    show am_big (d' + 2 + 1) mX4_readClause [.ref 407, .ref 1] 488 (PS M p l) Q = _
    rw [eX4_readClause, show d' + 3 - 1 = d' + 2 from rfl]
    unfold hdr
    by_cases c1 : sg (gI M 2) len (skp (gI M 2) len p) = 121
    · have hlt := sg_lt c1 (by decide)
      by_cases c2 : sg (gI M 2) len (skp (gI M 2) len (skp (gI M 2) len p + 1)) = 58
      · simp (disch := (first | assumption | omega | decide)) only [sX4_readClause_0, sX4_readClause_1, sX4_readClause_3, sX4_readClause_6, sX4_readClause_9, sX4_readClause_10, sX4_readClause_12, sX4_readClause_15, sX4_readClause_18, sX4_readClause_19, sX4_readClause_21, sX4_readClause_24, sX4_readClause_25, sX4_readClause_26, sX4_readClause_28, sX4_readClause_31, sX4_readClause_32, sX4_readClause_34, sX4_readClause_37, sX4_readClause_38, sX4_readClause_41, sX4_readClause_42, sX4_readClause_43, sX4_readClause_44, sX4_readClause_47, sX4_readClause_48, sX4_readClause_49, sX4_readClause_50, sX4_readClause_53, sX4_readClause_56, sX4_readClause_57, sX4_readClause_58, sX4_readClause_59, sX4_readClause_62, sX4_readClause_65, sX4_readClause_68, sX4_readClause_69, sX4_readClause_72, sX4_readClause_75, sX4_readClause_76, sX4_readClause_77, sX4_readClause_78, sX4_readClause_79, sX4_readClause_80, sX4_readClause_81, sX4_readClause_84, sX4_readClause_87, sX4_readClause_88, sX4_readClause_90, sX4_readClause_93, sX4_readClause_96, sX4_readClause_97, sX4_readClause_98, sX4_readClause_99, sX4_readClause_102, sX4_readClause_105, sX4_readClause_107, sX4_readClause_108, sX4_readClause_109, sX4_readClause_110, sX4_readClause_113, sX4_readClause_116, sX4_readClause_117, sX4_readClause_118, sX4_readClause_119, sX4_readClause_122, sX4_readClause_125, sX4_readClause_126, sX4_readClause_129, sX4_readClause_131, sX4_readClause_134, sX4_readClause_135, kI_i, kL_l, kV_v, am_rv_s, am_kl_i, am_kl_r, am_kl_n, am_kl_l, true_and, and_true, and_self, true_or, or_true, implies_true, forall_const, not_true_eq_false, not_false_eq_true, false_implies, true_implies, if_true, if_false, Bool.true_eq_false, Bool.false_eq_true, ob_1, PS_accept h, c1, c2, i01]
      · simp (disch := (first | assumption | omega | decide)) only [sX4_readClause_0, sX4_readClause_1, sX4_readClause_3, sX4_readClause_6, sX4_readClause_9, sX4_readClause_10, sX4_readClause_12, sX4_readClause_15, sX4_readClause_18, sX4_readClause_19, sX4_readClause_21, sX4_readClause_24, sX4_readClause_25, sX4_readClause_26, sX4_readClause_28, sX4_readClause_31, sX4_readClause_32, sX4_readClause_34, sX4_readClause_37, sX4_readClause_38, sX4_readClause_41, sX4_readClause_42, sX4_readClause_43, sX4_readClause_44, sX4_readClause_47, sX4_readClause_48, sX4_readClause_49, sX4_readClause_50, sX4_readClause_53, sX4_readClause_56, sX4_readClause_57, sX4_readClause_58, sX4_readClause_59, sX4_readClause_62, sX4_readClause_65, sX4_readClause_68, sX4_readClause_69, sX4_readClause_72, sX4_readClause_75, sX4_readClause_76, sX4_readClause_77, sX4_readClause_78, sX4_readClause_79, sX4_readClause_80, sX4_readClause_81, sX4_readClause_84, sX4_readClause_87, sX4_readClause_88, sX4_readClause_90, sX4_readClause_93, sX4_readClause_96, sX4_readClause_97, sX4_readClause_98, sX4_readClause_99, sX4_readClause_102, sX4_readClause_105, sX4_readClause_107, sX4_readClause_108, sX4_readClause_109, sX4_readClause_110, sX4_readClause_113, sX4_readClause_116, sX4_readClause_117, sX4_readClause_118, sX4_readClause_119, sX4_readClause_122, sX4_readClause_125, sX4_readClause_126, sX4_readClause_129, sX4_readClause_131, sX4_readClause_134, sX4_readClause_135, kI_i, kL_l, kV_v, am_rv_s, am_kl_i, am_kl_r, am_kl_n, am_kl_l, true_and, and_true, and_self, true_or, or_true, implies_true, forall_const, not_true_eq_false, not_false_eq_true, false_implies, true_implies, if_true, if_false, Bool.true_eq_false, Bool.false_eq_true, ob_1, PS_accept h, c1, c2, i01]
    · simp (disch := (first | assumption | omega | decide)) only [sX4_readClause_0, sX4_readClause_1, sX4_readClause_3, sX4_readClause_6, sX4_readClause_9, sX4_readClause_10, sX4_readClause_12, sX4_readClause_15, sX4_readClause_18, sX4_readClause_19, sX4_readClause_21, sX4_readClause_24, sX4_readClause_25, sX4_readClause_26, sX4_readClause_28, sX4_readClause_31, sX4_readClause_32, sX4_readClause_34, sX4_readClause_37, sX4_readClause_38, sX4_readClause_41, sX4_readClause_42, sX4_readClause_43, sX4_readClause_44, sX4_readClause_47, sX4_readClause_48, sX4_readClause_49, sX4_readClause_50, sX4_readClause_53, sX4_readClause_56, sX4_readClause_57, sX4_readClause_58, sX4_readClause_59, sX4_readClause_62, sX4_readClause_65, sX4_readClause_68, sX4_readClause_69, sX4_readClause_72, sX4_readClause_75, sX4_readClause_76, sX4_readClause_77, sX4_readClause_78, sX4_readClause_79, sX4_readClause_80, sX4_readClause_81, sX4_readClause_84, sX4_readClause_87, sX4_readClause_88, sX4_readClause_90, sX4_readClause_93, sX4_readClause_96, sX4_readClause_97, sX4_readClause_98, sX4_readClause_99, sX4_readClause_102, sX4_readClause_105, sX4_readClause_107, sX4_readClause_108, sX4_readClause_109, sX4_readClause_110, sX4_readClause_113, sX4_readClause_116, sX4_readClause_117, sX4_readClause_118, sX4_readClause_119, sX4_readClause_122, sX4_readClause_125, sX4_readClause_126, sX4_readClause_129, sX4_readClause_131, sX4_readClause_134, sX4_readClause_135, kI_i, kL_l, kV_v, am_rv_s, am_kl_i, am_kl_r, am_kl_n, am_kl_l, true_and, and_true, and_self, true_or, or_true, implies_true, forall_const, not_true_eq_false, not_false_eq_true, false_implies, true_implies, if_true, if_false, Bool.true_eq_false, Bool.false_eq_true, ob_1, PS_accept h, c1]
  cases ch : (hdr (gI M 2) len p).1 with
  | false =>
    rw [ch] at entry
    refine ⟨l, fun d Q hd => entry d Q hd, fun z => by simp at z⟩
  | true =>
    rw [ch] at entry
    simp only [if_true] at entry ⊢
    have hp2 := hh.2.2 ch
    have hq := hh.2.1
    generalize (hdr (gI M 2) len p).2 = q at entry hp2 hq
    have hs2 := skp_le' (T := gI M 2) hq
    have hg2 := skp_ge (T := gI M 2) (len := len) (p := q)
    unfold clb
    by_cases c1 : sg (gI M 2) len (skp (gI M 2) len q) = 33 ∨ sg (gI M 2) len (skp (gI M 2) len q) = 40
    · rw [if_pos c1]
      have hcon := PSK_con6 hW h
      have hcg := gd_con (T := gI M 2) (gd_unitL (T := gI M 2) (len := len) 6) (skp (gI M 2) len q) hs2
      have cs : ∀ d, 28 ≤ d → ∀ (Q : am_Q), am_big d mX4_readCondition [.ref 407, .ref 1, .int 0, .int 0] 488 (PS M (skp (gI M 2) len q) l) Q = _ := fun d hd Q => hcon d hd Q (skp (gI M 2) len q) l (by omega) hs2 (by omega)
      generalize conF (gI M 2) len (unitL (gI M 2) len 6) (skp (gI M 2) len q) = r at cs hcg
      obtain ⟨ok1, q1, cc⟩ := r
      simp only at cs hcg
      have st : ∀ d (Q : am_Q), 28 ≤ d → ok d mX4_readClause 488 Q 488 0 0 20 [some (.ref 407), some (.ref 1), none, none, none] [] (PS M q l) = if ok1 = true then ok d mX4_readClause 488 Q 488 0 0 87 [some (.ref 407), some (.ref 1), some (.int (sg (gI M 2) len (skp (gI M 2) len q))), some (.int 0), none] [] (PS M q1 (l ++ cc)) else Q (some (.int 0)) (PS M q1 (l ++ cc)) := fun d Q hd => by
        obtain ⟨d', rfl⟩ : ∃ d', d = d' + 3 := ⟨d - 3, by omega⟩
        rcases c1 with c1 | c1
        · cases ok1 with
          | false => simp (disch := (first | assumption | omega | decide)) only [sX4_readClause_0, sX4_readClause_1, sX4_readClause_3, sX4_readClause_6, sX4_readClause_9, sX4_readClause_10, sX4_readClause_12, sX4_readClause_15, sX4_readClause_18, sX4_readClause_19, sX4_readClause_20, sX4_readClause_21, sX4_readClause_24, sX4_readClause_25, sX4_readClause_26, sX4_readClause_28, sX4_readClause_31, sX4_readClause_32, sX4_readClause_34, sX4_readClause_37, sX4_readClause_38, sX4_readClause_41, sX4_readClause_42, sX4_readClause_43, sX4_readClause_44, sX4_readClause_47, sX4_readClause_48, sX4_readClause_49, sX4_readClause_50, sX4_readClause_53, sX4_readClause_56, sX4_readClause_57, sX4_readClause_58, sX4_readClause_59, sX4_readClause_62, sX4_readClause_65, sX4_readClause_68, sX4_readClause_69, sX4_readClause_72, sX4_readClause_75, sX4_readClause_76, sX4_readClause_77, sX4_readClause_78, sX4_readClause_79, sX4_readClause_80, sX4_readClause_81, sX4_readClause_84, sX4_readClause_88, sX4_readClause_90, sX4_readClause_93, sX4_readClause_96, sX4_readClause_97, sX4_readClause_98, sX4_readClause_99, sX4_readClause_102, sX4_readClause_105, sX4_readClause_107, sX4_readClause_108, sX4_readClause_109, sX4_readClause_110, sX4_readClause_113, sX4_readClause_116, sX4_readClause_117, sX4_readClause_118, sX4_readClause_119, sX4_readClause_122, sX4_readClause_125, sX4_readClause_126, sX4_readClause_129, sX4_readClause_131, sX4_readClause_134, sX4_readClause_135, kI_i, kL_l, kV_v, am_rv_s, am_kl_i, am_kl_r, am_kl_n, am_kl_l, true_and, and_true, and_self, true_or, or_true, implies_true, forall_const, not_true_eq_false, not_false_eq_true, false_implies, true_implies, if_true, if_false, Bool.true_eq_false, Bool.false_eq_true, ob_407, ob_1, PS_peek h, c1, cs, bz_f]
          | true => simp (disch := (first | assumption | omega | decide)) only [sX4_readClause_0, sX4_readClause_1, sX4_readClause_3, sX4_readClause_6, sX4_readClause_9, sX4_readClause_10, sX4_readClause_12, sX4_readClause_15, sX4_readClause_18, sX4_readClause_19, sX4_readClause_20, sX4_readClause_21, sX4_readClause_24, sX4_readClause_25, sX4_readClause_26, sX4_readClause_28, sX4_readClause_31, sX4_readClause_32, sX4_readClause_34, sX4_readClause_37, sX4_readClause_38, sX4_readClause_41, sX4_readClause_42, sX4_readClause_43, sX4_readClause_44, sX4_readClause_47, sX4_readClause_48, sX4_readClause_49, sX4_readClause_50, sX4_readClause_53, sX4_readClause_56, sX4_readClause_57, sX4_readClause_58, sX4_readClause_59, sX4_readClause_62, sX4_readClause_65, sX4_readClause_68, sX4_readClause_69, sX4_readClause_72, sX4_readClause_75, sX4_readClause_76, sX4_readClause_77, sX4_readClause_78, sX4_readClause_79, sX4_readClause_80, sX4_readClause_81, sX4_readClause_84, sX4_readClause_88, sX4_readClause_90, sX4_readClause_93, sX4_readClause_96, sX4_readClause_97, sX4_readClause_98, sX4_readClause_99, sX4_readClause_102, sX4_readClause_105, sX4_readClause_107, sX4_readClause_108, sX4_readClause_109, sX4_readClause_110, sX4_readClause_113, sX4_readClause_116, sX4_readClause_117, sX4_readClause_118, sX4_readClause_119, sX4_readClause_122, sX4_readClause_125, sX4_readClause_126, sX4_readClause_129, sX4_readClause_131, sX4_readClause_134, sX4_readClause_135, kI_i, kL_l, kV_v, am_rv_s, am_kl_i, am_kl_r, am_kl_n, am_kl_l, true_and, and_true, and_self, true_or, or_true, implies_true, forall_const, not_true_eq_false, not_false_eq_true, false_implies, true_implies, if_true, if_false, Bool.true_eq_false, Bool.false_eq_true, ob_407, ob_1, PS_peek h, c1, cs, bz_t, i01]
        · have n40 : ((40 : Int32) = 33) = False := eq_false (by decide)
          cases ok1 with
          | false => simp (disch := (first | assumption | omega | decide)) only [sX4_readClause_0, sX4_readClause_1, sX4_readClause_3, sX4_readClause_6, sX4_readClause_9, sX4_readClause_10, sX4_readClause_12, sX4_readClause_15, sX4_readClause_18, sX4_readClause_19, sX4_readClause_20, sX4_readClause_21, sX4_readClause_24, sX4_readClause_25, sX4_readClause_26, sX4_readClause_28, sX4_readClause_31, sX4_readClause_32, sX4_readClause_34, sX4_readClause_37, sX4_readClause_38, sX4_readClause_41, sX4_readClause_42, sX4_readClause_43, sX4_readClause_44, sX4_readClause_47, sX4_readClause_48, sX4_readClause_49, sX4_readClause_50, sX4_readClause_53, sX4_readClause_56, sX4_readClause_57, sX4_readClause_58, sX4_readClause_59, sX4_readClause_62, sX4_readClause_65, sX4_readClause_68, sX4_readClause_69, sX4_readClause_72, sX4_readClause_75, sX4_readClause_76, sX4_readClause_77, sX4_readClause_78, sX4_readClause_79, sX4_readClause_80, sX4_readClause_81, sX4_readClause_84, sX4_readClause_88, sX4_readClause_90, sX4_readClause_93, sX4_readClause_96, sX4_readClause_97, sX4_readClause_98, sX4_readClause_99, sX4_readClause_102, sX4_readClause_105, sX4_readClause_107, sX4_readClause_108, sX4_readClause_109, sX4_readClause_110, sX4_readClause_113, sX4_readClause_116, sX4_readClause_117, sX4_readClause_118, sX4_readClause_119, sX4_readClause_122, sX4_readClause_125, sX4_readClause_126, sX4_readClause_129, sX4_readClause_131, sX4_readClause_134, sX4_readClause_135, kI_i, kL_l, kV_v, am_rv_s, am_kl_i, am_kl_r, am_kl_n, am_kl_l, true_and, and_true, and_self, true_or, or_true, implies_true, forall_const, not_true_eq_false, not_false_eq_true, false_implies, true_implies, if_true, if_false, Bool.true_eq_false, Bool.false_eq_true, ob_407, ob_1, PS_peek h, c1, n40, cs, bz_f]
          | true => simp (disch := (first | assumption | omega | decide)) only [sX4_readClause_0, sX4_readClause_1, sX4_readClause_3, sX4_readClause_6, sX4_readClause_9, sX4_readClause_10, sX4_readClause_12, sX4_readClause_15, sX4_readClause_18, sX4_readClause_19, sX4_readClause_20, sX4_readClause_21, sX4_readClause_24, sX4_readClause_25, sX4_readClause_26, sX4_readClause_28, sX4_readClause_31, sX4_readClause_32, sX4_readClause_34, sX4_readClause_37, sX4_readClause_38, sX4_readClause_41, sX4_readClause_42, sX4_readClause_43, sX4_readClause_44, sX4_readClause_47, sX4_readClause_48, sX4_readClause_49, sX4_readClause_50, sX4_readClause_53, sX4_readClause_56, sX4_readClause_57, sX4_readClause_58, sX4_readClause_59, sX4_readClause_62, sX4_readClause_65, sX4_readClause_68, sX4_readClause_69, sX4_readClause_72, sX4_readClause_75, sX4_readClause_76, sX4_readClause_77, sX4_readClause_78, sX4_readClause_79, sX4_readClause_80, sX4_readClause_81, sX4_readClause_84, sX4_readClause_88, sX4_readClause_90, sX4_readClause_93, sX4_readClause_96, sX4_readClause_97, sX4_readClause_98, sX4_readClause_99, sX4_readClause_102, sX4_readClause_105, sX4_readClause_107, sX4_readClause_108, sX4_readClause_109, sX4_readClause_110, sX4_readClause_113, sX4_readClause_116, sX4_readClause_117, sX4_readClause_118, sX4_readClause_119, sX4_readClause_122, sX4_readClause_125, sX4_readClause_126, sX4_readClause_129, sX4_readClause_131, sX4_readClause_134, sX4_readClause_135, kI_i, kL_l, kV_v, am_rv_s, am_kl_i, am_kl_r, am_kl_n, am_kl_l, true_and, and_true, and_self, true_or, or_true, implies_true, forall_const, not_true_eq_false, not_false_eq_true, false_implies, true_implies, if_true, if_false, Bool.true_eq_false, Bool.false_eq_true, ob_407, ob_1, PS_peek h, c1, n40, cs, bz_t, i01]
      cases ok1 with
      | false =>
        rw [qus_f]
        exact ⟨l ++ cc, fun d Q hd => by rw [entry d Q hd, st _ Q (by omega)]; rfl, fun z => by cases z⟩
      | true =>
        obtain ⟨l', e, r⟩ := l_qus (l := l) hW h hcg.2 l.length cc rfl (by omega)
        exact ⟨l', fun d Q hd => by rw [entry d Q hd, st _ Q (by omega)]; exact e _ Q _ _ (by omega), r⟩
    · rw [if_neg c1]
      have c1a : ¬ sg (gI M 2) len (skp (gI M 2) len q) = 33 := fun z => c1 (Or.inl z)
      have c1b : ¬ sg (gI M 2) len (skp (gI M 2) len q) = 40 := fun z => c1 (Or.inr z)
      have hsum := PSK_sum hW h 6 (by omega)
      have hsg := gd_sum (T := gI M 2) (len := len) 6 (skp (gI M 2) len q) hs2
      have cs : ∀ d, 24 ≤ d → ∀ (Q : am_Q), am_big d mX4_readSum [.ref 407, .ref 1, .int 0] 488 (PS M (skp (gI M 2) len q) l) Q = _ := fun d hd Q => hsum d (by omega) Q (skp (gI M 2) len q) l (by omega) hs2 (by omega)
      generalize sumL (gI M 2) len 6 (skp (gI M 2) len q) = r at cs hsg
      obtain ⟨ok1, q1, sc⟩ := r
      simp only at cs hsg
      cases ok1 with
      | false =>
        refine ⟨l ++ sc, fun d Q hd => ?_, fun z => by cases z⟩
        rw [entry d Q hd]
        obtain ⟨d', rfl⟩ : ∃ d', d = d' + 4 := ⟨d - 4, by omega⟩
        rw [show d' + 4 - 1 = d' + 3 from rfl]
        simp (disch := (first | assumption | omega | decide)) only [sX4_readClause_0, sX4_readClause_1, sX4_readClause_3, sX4_readClause_6, sX4_readClause_9, sX4_readClause_10, sX4_readClause_12, sX4_readClause_15, sX4_readClause_18, sX4_readClause_19, sX4_readClause_20, sX4_readClause_21, sX4_readClause_24, sX4_readClause_25, sX4_readClause_26, sX4_readClause_28, sX4_readClause_31, sX4_readClause_32, sX4_readClause_34, sX4_readClause_37, sX4_readClause_38, sX4_readClause_41, sX4_readClause_42, sX4_readClause_43, sX4_readClause_44, sX4_readClause_47, sX4_readClause_48, sX4_readClause_49, sX4_readClause_50, sX4_readClause_53, sX4_readClause_56, sX4_readClause_57, sX4_readClause_58, sX4_readClause_59, sX4_readClause_62, sX4_readClause_65, sX4_readClause_68, sX4_readClause_69, sX4_readClause_72, sX4_readClause_75, sX4_readClause_76, sX4_readClause_77, sX4_readClause_78, sX4_readClause_79, sX4_readClause_80, sX4_readClause_81, sX4_readClause_84, sX4_readClause_87, sX4_readClause_88, sX4_readClause_90, sX4_readClause_93, sX4_readClause_96, sX4_readClause_97, sX4_readClause_98, sX4_readClause_99, sX4_readClause_102, sX4_readClause_105, sX4_readClause_107, sX4_readClause_108, sX4_readClause_109, sX4_readClause_110, sX4_readClause_113, sX4_readClause_116, sX4_readClause_117, sX4_readClause_118, sX4_readClause_119, sX4_readClause_122, sX4_readClause_125, sX4_readClause_126, sX4_readClause_129, sX4_readClause_131, sX4_readClause_134, sX4_readClause_135, kI_i, kL_l, kV_v, am_rv_s, am_kl_i, am_kl_r, am_kl_n, am_kl_l, true_and, and_true, and_self, true_or, or_true, implies_true, forall_const, not_true_eq_false, not_false_eq_true, false_implies, true_implies, if_true, if_false, Bool.true_eq_false, Bool.false_eq_true, ob_407, ob_1, PS_peek h, c1a, c1b, i01, cs, bz_f]
      | true =>
        have hs3 := skp_le' (T := gI M 2) hsg.2
        have hg3 := skp_ge (T := gI M 2) (len := len) (p := q1)
        simp only [Bool.true_eq_false, if_false]
        cases c2 : isCp (sg (gI M 2) len (skp (gI M 2) len q1)) with
        | false =>
          refine ⟨l ++ sc ++ [20000], fun d Q hd => ?_, fun _ => ?_⟩
          · rw [entry d Q hd]
            obtain ⟨d', rfl⟩ : ∃ d', d = d' + 4 := ⟨d - 4, by omega⟩
            rw [show d' + 4 - 1 = d' + 3 from rfl]
            have c3 : ∀ (Q : am_Q), am_big (d' + 3) mX2_addStop [.ref 408] 488 (PS M (skp (gI M 2) len q1) (l ++ sc)) Q = _ := fun Q => c_addStop (l := l ++ sc) hW (by simp only [List.length_append]; omega)
            simp (disch := (first | assumption | omega | decide)) only [sX4_readClause_0, sX4_readClause_1, sX4_readClause_3, sX4_readClause_6, sX4_readClause_9, sX4_readClause_10, sX4_readClause_12, sX4_readClause_15, sX4_readClause_18, sX4_readClause_19, sX4_readClause_20, sX4_readClause_21, sX4_readClause_24, sX4_readClause_25, sX4_readClause_26, sX4_readClause_28, sX4_readClause_31, sX4_readClause_32, sX4_readClause_34, sX4_readClause_37, sX4_readClause_38, sX4_readClause_41, sX4_readClause_42, sX4_readClause_43, sX4_readClause_44, sX4_readClause_47, sX4_readClause_48, sX4_readClause_49, sX4_readClause_50, sX4_readClause_53, sX4_readClause_56, sX4_readClause_57, sX4_readClause_58, sX4_readClause_59, sX4_readClause_62, sX4_readClause_65, sX4_readClause_68, sX4_readClause_69, sX4_readClause_72, sX4_readClause_75, sX4_readClause_76, sX4_readClause_77, sX4_readClause_78, sX4_readClause_79, sX4_readClause_80, sX4_readClause_81, sX4_readClause_84, sX4_readClause_87, sX4_readClause_88, sX4_readClause_90, sX4_readClause_93, sX4_readClause_96, sX4_readClause_97, sX4_readClause_98, sX4_readClause_99, sX4_readClause_102, sX4_readClause_105, sX4_readClause_107, sX4_readClause_108, sX4_readClause_109, sX4_readClause_110, sX4_readClause_113, sX4_readClause_116, sX4_readClause_117, sX4_readClause_118, sX4_readClause_119, sX4_readClause_122, sX4_readClause_125, sX4_readClause_126, sX4_readClause_129, sX4_readClause_131, sX4_readClause_134, sX4_readClause_135, kI_i, kL_l, kV_v, am_rv_s, am_kl_i, am_kl_r, am_kl_n, am_kl_l, true_and, and_true, and_self, true_or, or_true, implies_true, forall_const, not_true_eq_false, not_false_eq_true, false_implies, true_implies, if_true, if_false, Bool.true_eq_false, Bool.false_eq_true, ob_407, ob_1, PS_peek h, c1a, c1b, i01, cs, bz_t, c_isCompare, c2, bz_f, gR_PS, r_407_0, ob_408, c3]
          · unfold cco
            simp only [if_true, Bool.false_eq_true, if_false, List.append_assoc]
        | true =>
          have hcon := PSK_conS hW h
          have hcg := gd_conS (T := gI M 2) (len := len) (skp (gI M 2) len q1) hs3
          have c4 : ∀ d, 28 ≤ d → ∀ (Q : am_Q), am_big d mX4_readCondition [.ref 407, .ref 1, .int 0, .int 1] 488 (PS M (skp (gI M 2) len q1) (l ++ sc)) Q = _ := fun d hd Q => hcon d hd Q (skp (gI M 2) len q1) (l ++ sc) (by omega) hs3 (by simp only [List.length_append]; omega)
          simp only [Bool.true_eq_false, if_false]
          generalize conS (gI M 2) len (skp (gI M 2) len q1) = r at c4 hcg
          obtain ⟨ok2, q2, cc⟩ := r
          simp only at c4 hcg
          have st : ∀ d (Q : am_Q), 28 ≤ d → ok d mX4_readClause 488 Q 488 0 0 20 [some (.ref 407), some (.ref 1), none, none, none] [] (PS M q l) = if ok2 = true then ok d mX4_readClause 488 Q 488 0 0 87 [some (.ref 407), some (.ref 1), some (.int (sg (gI M 2) len (skp (gI M 2) len q))), some (.int 1), none] [] (PS M q2 (l ++ sc ++ cc)) else Q (some (.int 0)) (PS M q2 (l ++ sc ++ cc)) := fun d Q hd => by
            obtain ⟨d', rfl⟩ : ∃ d', d = d' + 3 := ⟨d - 3, by omega⟩
            cases ok2 with
            | false => simp (disch := (first | assumption | omega | decide)) only [sX4_readClause_0, sX4_readClause_1, sX4_readClause_3, sX4_readClause_6, sX4_readClause_9, sX4_readClause_10, sX4_readClause_12, sX4_readClause_15, sX4_readClause_18, sX4_readClause_19, sX4_readClause_20, sX4_readClause_21, sX4_readClause_24, sX4_readClause_25, sX4_readClause_26, sX4_readClause_28, sX4_readClause_31, sX4_readClause_32, sX4_readClause_34, sX4_readClause_37, sX4_readClause_38, sX4_readClause_41, sX4_readClause_42, sX4_readClause_43, sX4_readClause_44, sX4_readClause_47, sX4_readClause_48, sX4_readClause_49, sX4_readClause_50, sX4_readClause_53, sX4_readClause_56, sX4_readClause_57, sX4_readClause_58, sX4_readClause_59, sX4_readClause_62, sX4_readClause_65, sX4_readClause_68, sX4_readClause_69, sX4_readClause_72, sX4_readClause_75, sX4_readClause_76, sX4_readClause_77, sX4_readClause_78, sX4_readClause_79, sX4_readClause_80, sX4_readClause_81, sX4_readClause_84, sX4_readClause_88, sX4_readClause_90, sX4_readClause_93, sX4_readClause_96, sX4_readClause_97, sX4_readClause_98, sX4_readClause_99, sX4_readClause_102, sX4_readClause_105, sX4_readClause_107, sX4_readClause_108, sX4_readClause_109, sX4_readClause_110, sX4_readClause_113, sX4_readClause_116, sX4_readClause_117, sX4_readClause_118, sX4_readClause_119, sX4_readClause_122, sX4_readClause_125, sX4_readClause_126, sX4_readClause_129, sX4_readClause_131, sX4_readClause_134, sX4_readClause_135, kI_i, kL_l, kV_v, am_rv_s, am_kl_i, am_kl_r, am_kl_n, am_kl_l, true_and, and_true, and_self, true_or, or_true, implies_true, forall_const, not_true_eq_false, not_false_eq_true, false_implies, true_implies, if_true, if_false, Bool.true_eq_false, Bool.false_eq_true, ob_407, ob_1, PS_peek h, c1a, c1b, i01, cs, bz_t, c_isCompare, c2, c4, bz_f]
            | true => simp (disch := (first | assumption | omega | decide)) only [sX4_readClause_0, sX4_readClause_1, sX4_readClause_3, sX4_readClause_6, sX4_readClause_9, sX4_readClause_10, sX4_readClause_12, sX4_readClause_15, sX4_readClause_18, sX4_readClause_19, sX4_readClause_20, sX4_readClause_21, sX4_readClause_24, sX4_readClause_25, sX4_readClause_26, sX4_readClause_28, sX4_readClause_31, sX4_readClause_32, sX4_readClause_34, sX4_readClause_37, sX4_readClause_38, sX4_readClause_41, sX4_readClause_42, sX4_readClause_43, sX4_readClause_44, sX4_readClause_47, sX4_readClause_48, sX4_readClause_49, sX4_readClause_50, sX4_readClause_53, sX4_readClause_56, sX4_readClause_57, sX4_readClause_58, sX4_readClause_59, sX4_readClause_62, sX4_readClause_65, sX4_readClause_68, sX4_readClause_69, sX4_readClause_72, sX4_readClause_75, sX4_readClause_76, sX4_readClause_77, sX4_readClause_78, sX4_readClause_79, sX4_readClause_80, sX4_readClause_81, sX4_readClause_84, sX4_readClause_88, sX4_readClause_90, sX4_readClause_93, sX4_readClause_96, sX4_readClause_97, sX4_readClause_98, sX4_readClause_99, sX4_readClause_102, sX4_readClause_105, sX4_readClause_107, sX4_readClause_108, sX4_readClause_109, sX4_readClause_110, sX4_readClause_113, sX4_readClause_116, sX4_readClause_117, sX4_readClause_118, sX4_readClause_119, sX4_readClause_122, sX4_readClause_125, sX4_readClause_126, sX4_readClause_129, sX4_readClause_131, sX4_readClause_134, sX4_readClause_135, kI_i, kL_l, kV_v, am_rv_s, am_kl_i, am_kl_r, am_kl_n, am_kl_l, true_and, and_true, and_self, true_or, or_true, implies_true, forall_const, not_true_eq_false, not_false_eq_true, false_implies, true_implies, if_true, if_false, Bool.true_eq_false, Bool.false_eq_true, ob_407, ob_1, PS_peek h, c1a, c1b, i01, cs, bz_t, c_isCompare, c2, c4]
          cases ok2 with
          | false =>
            rw [qus_f]
            exact ⟨l ++ sc ++ cc, fun d Q hd => by rw [entry d Q hd, st _ Q (by omega)]; rfl, fun z => by cases z⟩
          | true =>
            obtain ⟨l', e, r⟩ := l_qus (l := l) hW h hcg.2 l.length (sc ++ cc) rfl (by simp only [List.length_append]; omega)
            rw [← List.append_assoc] at e
            exact ⟨l', fun d Q hd => by rw [entry d Q hd, st _ Q (by omega)]; exact e _ Q _ _ (by omega), r⟩
end
