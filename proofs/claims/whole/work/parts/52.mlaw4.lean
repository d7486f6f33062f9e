def MB (M : am_M) (L : Int32 → Int32) (len K : Nat) (m : am_Y) (ex : List Value) (dep : Int32) (P : Nat → PR) (k : Nat) (C0 : List Int32) : Prop := ∀ p, 0 < p → p ≤ len → ∃ v q f dp, (∀ D (Q : am_Q), K ≤ D → am_big D m ([.ref 457] ++ ex) 488 (md M p (-1) dep) Q = Q (some (.int v)) (md M q f dp)) ∧ ((P p).1 = true → q = (P p).2.1 ∧ f = -1 ∧ dp = dep ∧ CV L (C0 ++ (P p).2.2) k v) ∧ ((P p).1 = false → f = nI (P p).2.1) ∧ is01 v = true
theorem MB_mono {M : am_M} {L : Int32 → Int32} {len K K' k : Nat} {m : am_Y} {ex : List Value} {dep : Int32} {P : Nat → PR} {C0 : List Int32} (h : MB M L len K m ex dep P k C0) (hK : K ≤ K') : MB M L len K' m ex dep P k C0 := fun p hp0 hp => by
  obtain ⟨v, q, f, dp, e, r⟩ := h p hp0 hp
  exact ⟨v, q, f, dp, fun D Q hD => e D Q (by omega), r⟩
section
variable {M : am_M} {L : Int32 → Int32} {b beg len K : Nat} {T : Nat → Int32}
theorem MK_sumF {lv kA : Nat} {A : Nat → PR} (h : PB M b beg T len) (hA : gd len A) (hP : MK M L len K mX11_atom [] (dpt lv) A kA [] Bd) (hK : 2 ≤ K) : MK M L len (K + 2) mX11_sum [] (dpt lv) (sumF T len A) (kA + 2) [] Bd := MK_sum h (gd_seq (by decide) hA hA) (MK_term h hA hP (Nat.le_refl _) hK) (by omega) (by omega)
theorem MK_sumL (hW : WR M) (h : PB M b beg T len) (hL : LMt M L) : ∀ l, l ≤ 6 → MK M L len (6 + 3 * l) mX11_sum [] (dpt l) (sumL T len l) (3 + 2 * l) [] Bd
  | 0, _ => MK_sumF h (gd_atom (fun s h => by cases h)) (MK_atom (K := 3) (k' := 0) hW h hL (by omega) (fun s h => by cases h) (fun _ => rfl) (by omega) (by omega)) (by omega)
  | l + 1, hl => by
    have h1 := MK_sumF h (gd_atom (fun s h => by cases h; exact gd_sum l)) (MK_atom (K := 6 + 3 * l) (k' := 3 + 2 * l) (S := some (sumL T len l)) (lv := l + 1) hW h hL hl (fun s h' => by cases h'; exact ⟨by omega, gd_sum l, MK_sumL hW h hL l (by omega)⟩) (fun z => by cases z) (by omega) (by omega)) (by omega)
    have e : 1 + 2 * (l + 1) + 2 = 3 + 2 * (l + 1) := by omega
    rw [e] at h1
    exact MK_mono h1 (by omega)
theorem m_isSign {d : Nat} {Q : am_Q} {x : Int32} {N : am_M} : am_big (d + 1) mX11_isSign [.int x] 488 N Q = Q (some (.int (bz (isCp x)))) N := by
  rw [eX11_isSign]
  simp only [sX11_isSign_0, sX11_isSign_1, sX11_isSign_3, sX11_isSign_6, sX11_isSign_7, sX11_isSign_9, sX11_isSign_12, sX11_isSign_13, sX11_isSign_15, sX11_isSign_18, sX11_isSign_19, sX11_isSign_22, sX11_isSign_23, kI_i, kL_l, kV_v, am_rv_s, am_kl_i, am_kl_r, am_kl_n, am_kl_l, true_and, and_true, and_self, true_or, or_true, implies_true, forall_const, not_true_eq_false, not_false_eq_true, false_implies, true_implies, if_true, if_false, Bool.true_eq_false, Bool.false_eq_true]
  unfold isCp
  by_cases h1 : x = 61
  · simp [h1, bz]
  · by_cases h2 : x = 60
    · simp [h2, bz]
    · by_cases h3 : x = 62
      · simp [h3, bz]
      · simp [h1, h2, h3, bz]
/-- behind the first sum of a comparison -/
theorem lm_cmp {dep one : Int32} {S : Nat → PR} {k : Nat} {C0 : List Int32} (h : PB M b beg T len) (hS : gd len S) (hP : MK M L len K mX11_sum [] dep S k [] Bd) (hC : CV L C0 (k + 1) one) (hb : Bd one) {p : Nat} (hp0 : 0 < p) (hp : p ≤ len) : ∃ v q f dp, (∀ d (Q : am_Q) l1 l2, K ≤ d → 2 ≤ d → ok d mX11_compares 488 Q 488 0 0 13 [some (.ref 457), some (.int l1), some (.int l2), some (.int one), none, none] [] (md M p (-1) dep) = Q (some (.int v)) (md M q f dp)) ∧ ((cmpF T len S p).1 = true → q = (cmpF T len S p).2.1 ∧ f = -1 ∧ dp = dep ∧ CV L (C0 ++ (cmpF T len S p).2.2) (k + 1) v) ∧ ((cmpF T len S p).1 = false → f = nI (cmpF T len S p).2.1) ∧ is01 v = true := by
  have hlen := h.2.2.2.2.1
  have hs := skp_le' (T := T) hp
  have hg := skp_ge (T := T) (len := len) (p := p)
  unfold cmpF
  cases c1 : isCp (sg T len (skp T len p)) with
  | false =>
    simp only [Bool.false_eq_true, if_false]
    refine ⟨0, skp T len p, nI (skp T len p), dep, fun d Q l1 l2 hd hd2 => ?_, fun z => (by cases z), fun _ => rfl, (by decide)⟩
    obtain ⟨d', rfl⟩ : ∃ d', d = d' + 2 := ⟨d - 2, by omega⟩
    simp (disch := (first | assumption | omega | decide)) only [sX11_compares_0, sX11_compares_1, sX11_compares_4, sX11_compares_5, sX11_compares_8, sX11_compares_9, sX11_compares_12, sX11_compares_13, sX11_compares_14, sX11_compares_17, sX11_compares_18, sX11_compares_21, sX11_compares_22, sX11_compares_23, sX11_compares_24, sX11_compares_27, sX11_compares_29, sX11_compares_31, sX11_compares_34, sX11_compares_37, sX11_compares_38, sX11_compares_41, sX11_compares_42, sX11_compares_43, sX11_compares_44, sX11_compares_47, sX11_compares_48, sX11_compares_49, sX11_compares_52, sX11_compares_53, sX11_compares_56, sX11_compares_58, sX11_compares_60, sX11_compares_62, sX11_compares_65, sX11_compares_66, sX11_compares_68, sX11_compares_71, sX11_compares_72, sX11_compares_75, sX11_compares_76, sX11_compares_79, sX11_compares_81, sX11_compares_83, sX11_compares_86, sX11_compares_87, sX11_compares_89, sX11_compares_92, sX11_compares_93, sX11_compares_96, sX11_compares_97, sX11_compares_100, sX11_compares_101, sX11_compares_103, sX11_compares_106, sX11_compares_107, sX11_compares_110, sX11_compares_111, kI_i, kL_l, kV_v, am_rv_s, am_kl_i, am_kl_r, am_kl_n, am_kl_l, true_and, and_true, and_self, true_or, or_true, implies_true, forall_const, not_true_eq_false, not_false_eq_true, false_implies, true_implies, if_true, if_false, Bool.true_eq_false, Bool.false_eq_true, ob_457, gI_md1, md_look h, m_isSign, c1, bz_f, md_fails, i10]
  | true =>
    have hlt := sg_ne (by decide) c1
    have hq := hS (skp T len p + 1) (by omega)
    obtain ⟨w, q, f, dp, e, r1, r2⟩ := hP (skp T len p + 1) (by omega) (by omega)
    have e' : ∀ D (Q : am_Q), K ≤ D → am_big D mX11_sum [.ref 457] 488 (md M (skp T len p + 1) (-1) dep) Q = Q (some (.int w)) (md M q f dp) := e
    simp only [if_true]
    generalize hr : S (skp T len p + 1) = r at r1 r2 hq
    obtain ⟨ok1, q1, cc⟩ := r
    simp only at r1 r2 hq
    have c1' : sg T len (skp T len p) = 61 ∨ sg T len (skp T len p) = 60 ∨ sg T len (skp T len p) = 62 := by
      unfold isCp at c1
      simpa using c1
    generalize hsg : sg T len (skp T len p) = s0 at c1 c1'
    have st : ∀ d (Q : am_Q) l1 l2, K ≤ d → 2 ≤ d → ok d mX11_compares 488 Q 488 0 0 13 [some (.ref 457), some (.int l1), some (.int l2), some (.int one), none, none] [] (md M p (-1) dep) = Q (some (.int (jn one s0 w))) (md M q f dp) := fun d Q l1 l2 hd hd2 => by
      obtain ⟨d', rfl⟩ : ∃ d', d = d' + 2 := ⟨d - 2, by omega⟩
      unfold jn
      rcases c1' with rfl | rfl | rfl
      · by_cases z : one = w
        · simp (disch := (first | assumption | omega | decide)) only [sX11_compares_0, sX11_compares_1, sX11_compares_4, sX11_compares_5, sX11_compares_8, sX11_compares_9, sX11_compares_12, sX11_compares_13, sX11_compares_14, sX11_compares_17, sX11_compares_18, sX11_compares_21, sX11_compares_22, sX11_compares_23, sX11_compares_24, sX11_compares_27, sX11_compares_29, sX11_compares_31, sX11_compares_34, sX11_compares_37, sX11_compares_38, sX11_compares_41, sX11_compares_42, sX11_compares_43, sX11_compares_44, sX11_compares_47, sX11_compares_48, sX11_compares_49, sX11_compares_52, sX11_compares_53, sX11_compares_56, sX11_compares_58, sX11_compares_60, sX11_compares_62, sX11_compares_65, sX11_compares_66, sX11_compares_68, sX11_compares_71, sX11_compares_72, sX11_compares_75, sX11_compares_76, sX11_compares_79, sX11_compares_81, sX11_compares_83, sX11_compares_86, sX11_compares_87, sX11_compares_89, sX11_compares_92, sX11_compares_93, sX11_compares_96, sX11_compares_97, sX11_compares_100, sX11_compares_101, sX11_compares_103, sX11_compares_106, sX11_compares_107, sX11_compares_110, sX11_compares_111, kI_i, kL_l, kV_v, am_rv_s, am_kl_i, am_kl_r, am_kl_n, am_kl_l, true_and, and_true, and_self, true_or, or_true, implies_true, forall_const, not_true_eq_false, not_false_eq_true, false_implies, true_implies, if_true, if_false, Bool.true_eq_false, Bool.false_eq_true, ob_457, gI_md1, md_look h, hsg, m_isSign, c1, bz_t, i01, gI_md0, nI_1, md_at, e', z]; rfl
        · simp (disch := (first | assumption | omega | decide)) only [sX11_compares_0, sX11_compares_1, sX11_compares_4, sX11_compares_5, sX11_compares_8, sX11_compares_9, sX11_compares_12, sX11_compares_13, sX11_compares_14, sX11_compares_17, sX11_compares_18, sX11_compares_21, sX11_compares_22, sX11_compares_23, sX11_compares_24, sX11_compares_27, sX11_compares_29, sX11_compares_31, sX11_compares_34, sX11_compares_37, sX11_compares_38, sX11_compares_41, sX11_compares_42, sX11_compares_43, sX11_compares_44, sX11_compares_47, sX11_compares_48, sX11_compares_49, sX11_compares_52, sX11_compares_53, sX11_compares_56, sX11_compares_58, sX11_compares_60, sX11_compares_62, sX11_compares_65, sX11_compares_66, sX11_compares_68, sX11_compares_71, sX11_compares_72, sX11_compares_75, sX11_compares_76, sX11_compares_79, sX11_compares_81, sX11_compares_83, sX11_compares_86, sX11_compares_87, sX11_compares_89, sX11_compares_92, sX11_compares_93, sX11_compares_96, sX11_compares_97, sX11_compares_100, sX11_compares_101, sX11_compares_103, sX11_compares_106, sX11_compares_107, sX11_compares_110, sX11_compares_111, kI_i, kL_l, kV_v, am_rv_s, am_kl_i, am_kl_r, am_kl_n, am_kl_l, true_and, and_true, and_self, true_or, or_true, implies_true, forall_const, not_true_eq_false, not_false_eq_true, false_implies, true_implies, if_true, if_false, Bool.true_eq_false, Bool.false_eq_true, ob_457, gI_md1, md_look h, hsg, m_isSign, c1, bz_t, i01, gI_md0, nI_1, md_at, e', z]; rfl
      · have n60 : ((60 : Int32) = 61) = False := eq_false (by decide)
        by_cases z : one < w
        · have z' : (w ≤ one) = False := eq_false (Int32.not_le.mpr z)
          simp (disch := (first | assumption | omega | decide)) only [sX11_compares_0, sX11_compares_1, sX11_compares_4, sX11_compares_5, sX11_compares_8, sX11_compares_9, sX11_compares_12, sX11_compares_13, sX11_compares_14, sX11_compares_17, sX11_compares_18, sX11_compares_21, sX11_compares_22, sX11_compares_23, sX11_compares_24, sX11_compares_27, sX11_compares_29, sX11_compares_31, sX11_compares_34, sX11_compares_37, sX11_compares_38, sX11_compares_41, sX11_compares_42, sX11_compares_43, sX11_compares_44, sX11_compares_47, sX11_compares_48, sX11_compares_49, sX11_compares_52, sX11_compares_53, sX11_compares_56, sX11_compares_58, sX11_compares_60, sX11_compares_62, sX11_compares_65, sX11_compares_66, sX11_compares_68, sX11_compares_71, sX11_compares_72, sX11_compares_75, sX11_compares_76, sX11_compares_79, sX11_compares_81, sX11_compares_83, sX11_compares_86, sX11_compares_87, sX11_compares_89, sX11_compares_92, sX11_compares_93, sX11_compares_96, sX11_compares_97, sX11_compares_100, sX11_compares_101, sX11_compares_103, sX11_compares_106, sX11_compares_107, sX11_compares_110, sX11_compares_111, kI_i, kL_l, kV_v, am_rv_s, am_kl_i, am_kl_r, am_kl_n, am_kl_l, true_and, and_true, and_self, true_or, or_true, implies_true, forall_const, not_true_eq_false, not_false_eq_true, false_implies, true_implies, if_true, if_false, Bool.true_eq_false, Bool.false_eq_true, ob_457, gI_md1, md_look h, hsg, n60, m_isSign, c1, bz_t, i01, gI_md0, nI_1, md_at, e', z, z']; rfl
        · have z' : (w ≤ one) = True := eq_true (Int32.not_lt.mp z)
          simp (disch := (first | assumption | omega | decide)) only [sX11_compares_0, sX11_compares_1, sX11_compares_4, sX11_compares_5, sX11_compares_8, sX11_compares_9, sX11_compares_12, sX11_compares_13, sX11_compares_14, sX11_compares_17, sX11_compares_18, sX11_compares_21, sX11_compares_22, sX11_compares_23, sX11_compares_24, sX11_compares_27, sX11_compares_29, sX11_compares_31, sX11_compares_34, sX11_compares_37, sX11_compares_38, sX11_compares_41, sX11_compares_42, sX11_compares_43, sX11_compares_44, sX11_compares_47, sX11_compares_48, sX11_compares_49, sX11_compares_52, sX11_compares_53, sX11_compares_56, sX11_compares_58, sX11_compares_60, sX11_compares_62, sX11_compares_65, sX11_compares_66, sX11_compares_68, sX11_compares_71, sX11_compares_72, sX11_compares_75, sX11_compares_76, sX11_compares_79, sX11_compares_81, sX11_compares_83, sX11_compares_86, sX11_compares_87, sX11_compares_89, sX11_compares_92, sX11_compares_93, sX11_compares_96, sX11_compares_97, sX11_compares_100, sX11_compares_101, sX11_compares_103, sX11_compares_106, sX11_compares_107, sX11_compares_110, sX11_compares_111, kI_i, kL_l, kV_v, am_rv_s, am_kl_i, am_kl_r, am_kl_n, am_kl_l, true_and, and_true, and_self, true_or, or_true, implies_true, forall_const, not_true_eq_false, not_false_eq_true, false_implies, true_implies, if_true, if_false, Bool.true_eq_false, Bool.false_eq_true, ob_457, gI_md1, md_look h, hsg, n60, m_isSign, c1, bz_t, i01, gI_md0, nI_1, md_at, e', z, z']; rfl
      · have n62 : ((62 : Int32) = 61) = False := eq_false (by decide)
        have n63 : ((62 : Int32) = 60) = False := eq_false (by decide)
        by_cases z : w < one
        · have z' : (one ≤ w) = False := eq_false (Int32.not_le.mpr z)
          simp (disch := (first | assumption | omega | decide)) only [sX11_compares_0, sX11_compares_1, sX11_compares_4, sX11_compares_5, sX11_compares_8, sX11_compares_9, sX11_compares_12, sX11_compares_13, sX11_compares_14, sX11_compares_17, sX11_compares_18, sX11_compares_21, sX11_compares_22, sX11_compares_23, sX11_compares_24, sX11_compares_27, sX11_compares_29, sX11_compares_31, sX11_compares_34, sX11_compares_37, sX11_compares_38, sX11_compares_41, sX11_compares_42, sX11_compares_43, sX11_compares_44, sX11_compares_47, sX11_compares_48, sX11_compares_49, sX11_compares_52, sX11_compares_53, sX11_compares_56, sX11_compares_58, sX11_compares_60, sX11_compares_62, sX11_compares_65, sX11_compares_66, sX11_compares_68, sX11_compares_71, sX11_compares_72, sX11_compares_75, sX11_compares_76, sX11_compares_79, sX11_compares_81, sX11_compares_83, sX11_compares_86, sX11_compares_87, sX11_compares_89, sX11_compares_92, sX11_compares_93, sX11_compares_96, sX11_compares_97, sX11_compares_100, sX11_compares_101, sX11_compares_103, sX11_compares_106, sX11_compares_107, sX11_compares_110, sX11_compares_111, kI_i, kL_l, kV_v, am_rv_s, am_kl_i, am_kl_r, am_kl_n, am_kl_l, true_and, and_true, and_self, true_or, or_true, implies_true, forall_const, not_true_eq_false, not_false_eq_true, false_implies, true_implies, if_true, if_false, Bool.true_eq_false, Bool.false_eq_true, ob_457, gI_md1, md_look h, hsg, n62, n63, m_isSign, c1, bz_t, i01, gI_md0, nI_1, md_at, e', z, z']; rfl
        · have z' : (one ≤ w) = True := eq_true (Int32.not_lt.mp z)
          simp (disch := (first | assumption | omega | decide)) only [sX11_compares_0, sX11_compares_1, sX11_compares_4, sX11_compares_5, sX11_compares_8, sX11_compares_9, sX11_compares_12, sX11_compares_13, sX11_compares_14, sX11_compares_17, sX11_compares_18, sX11_compares_21, sX11_compares_22, sX11_compares_23, sX11_compares_24, sX11_compares_27, sX11_compares_29, sX11_compares_31, sX11_compares_34, sX11_compares_37, sX11_compares_38, sX11_compares_41, sX11_compares_42, sX11_compares_43, sX11_compares_44, sX11_compares_47, sX11_compares_48, sX11_compares_49, sX11_compares_52, sX11_compares_53, sX11_compares_56, sX11_compares_58, sX11_compares_60, sX11_compares_62, sX11_compares_65, sX11_compares_66, sX11_compares_68, sX11_compares_71, sX11_compares_72, sX11_compares_75, sX11_compares_76, sX11_compares_79, sX11_compares_81, sX11_compares_83, sX11_compares_86, sX11_compares_87, sX11_compares_89, sX11_compares_92, sX11_compares_93, sX11_compares_96, sX11_compares_97, sX11_compares_100, sX11_compares_101, sX11_compares_103, sX11_compares_106, sX11_compares_107, sX11_compares_110, sX11_compares_111, kI_i, kL_l, kV_v, am_rv_s, am_kl_i, am_kl_r, am_kl_n, am_kl_l, true_and, and_true, and_self, true_or, or_true, implies_true, forall_const, not_true_eq_false, not_false_eq_true, false_implies, true_implies, if_true, if_false, Bool.true_eq_false, Bool.false_eq_true, ob_457, gI_md1, md_look h, hsg, n62, n63, m_isSign, c1, bz_t, i01, gI_md0, nI_1, md_at, e', z, z']; rfl
    cases ok1 with
    | false => exact ⟨_, _, _, _, st, fun z => (by cases z), fun _ => r2 rfl, (cmp_is01 c1).1⟩
    | true =>
      obtain ⟨rfl, rfl, rfl, r3, r4⟩ := r1 rfl
      refine ⟨_, _, _, _, st, fun _ => ⟨rfl, rfl, rfl, ?_⟩, fun z => (by cases z), (cmp_is01 c1).1⟩
      have := CV_bin hC r3 (Nat.le_refl _) (Nat.le_refl _) (cmp_is01 (v1 := one) (v2 := w) c1).2
      simpa only [List.append_assoc, List.nil_append, if_true] using this
theorem MK_cmp1 {dep one : Int32} {S : Nat → PR} {k : Nat} {C0 : List Int32} (h : PB M b beg T len) (hS : gd len S) (hP : MK M L len K mX11_sum [] dep S k [] Bd) (hC : CV L C0 (k + 1) one) (hb : Bd one) (hK : 2 ≤ K) : MB M L len (K + 1) mX11_compares [.int 1, .int one] dep (cmpF T len S) (k + 1) C0 := by
  intro p hp0 hp
  obtain ⟨v, q, f, dp, e, r⟩ := lm_cmp h hS hP hC hb hp0 hp
  refine ⟨v, q, f, dp, fun D Q hD => ?_, r⟩
  obtain ⟨d, rfl⟩ : ∃ d, D = d + 1 := ⟨D - 1, by omega⟩
  show am_big (d + 1) mX11_compares [.ref 457, .int 1, .int one] 488 _ Q = _
  rw [eX11_compares, ← e d Q 1 one (by omega) (by omega)]
  simp (disch := (first | assumption | omega | decide)) only [sX11_compares_0, sX11_compares_1, sX11_compares_4, sX11_compares_5, sX11_compares_8, sX11_compares_9, sX11_compares_12, sX11_compares_14, sX11_compares_17, sX11_compares_18, sX11_compares_21, sX11_compares_22, sX11_compares_23, sX11_compares_24, sX11_compares_27, sX11_compares_29, sX11_compares_31, sX11_compares_34, sX11_compares_37, sX11_compares_38, sX11_compares_41, sX11_compares_42, sX11_compares_43, sX11_compares_44, sX11_compares_47, sX11_compares_48, sX11_compares_49, sX11_compares_52, sX11_compares_53, sX11_compares_56, sX11_compares_58, sX11_compares_60, sX11_compares_62, sX11_compares_65, sX11_compares_66, sX11_compares_68, sX11_compares_71, sX11_compares_72, sX11_compares_75, sX11_compares_76, sX11_compares_79, sX11_compares_81, sX11_compares_83, sX11_compares_86, sX11_compares_87, sX11_compares_89, sX11_compares_92, sX11_compares_93, sX11_compares_96, sX11_compares_97, sX11_compares_100, sX11_compares_101, sX11_compares_103, sX11_compares_106, sX11_compares_107, sX11_compares_110, sX11_compares_111, kI_i, kL_l, kV_v, am_rv_s, am_kl_i, am_kl_r, am_kl_n, am_kl_l, true_and, and_true, and_self, true_or, or_true, implies_true, forall_const, not_true_eq_false, not_false_eq_true, false_implies, true_implies, if_true, if_false, Bool.true_eq_false, Bool.false_eq_true, i01]
theorem MK_cmp0 {dep : Int32} {S : Nat → PR} {k : Nat} (h : PB M b beg T len) (hS : gd len S) (hP : MK M L len K mX11_sum [] dep S k [] Bd) (hK : 2 ≤ K) : MB M L len (K + 1) mX11_compares [.int 0, .int 0] dep (scmF T len S) (k + 1) [] := by
  intro p hp0 hp
  have hlen := h.2.2.2.2.1
  obtain ⟨w, q, f, dp, e, r1, r2⟩ := hP p hp0 hp
  have hq := hS p hp
  have e' : ∀ D (Q : am_Q), K ≤ D → am_big D mX11_sum [.ref 457] 488 (md M p (-1) dep) Q = Q (some (.int w)) (md M q f dp) := e
  unfold scmF
  generalize hr : S p = r at r1 r2 hq
  obtain ⟨ok1, q1, cc⟩ := r
  simp only at r1 r2 hq
  cases ok1 with
  | false =>
    have r2 := r2 rfl
    subst r2
    refine ⟨0, q, nI q1, dp, fun D Q hD => ?_, fun z => (by cases z), fun _ => rfl, (by decide)⟩
    obtain ⟨d, rfl⟩ : ∃ d, D = d + 1 := ⟨D - 1, by omega⟩
    show am_big (d + 1) mX11_compares [.ref 457, .int 0, .int 0] 488 _ Q = _
    rw [eX11_compares]
    simp (disch := (first | assumption | omega | decide)) only [sX11_compares_0, sX11_compares_1, sX11_compares_4, sX11_compares_5, sX11_compares_8, sX11_compares_9, sX11_compares_12, sX11_compares_13, sX11_compares_14, sX11_compares_17, sX11_compares_18, sX11_compares_21, sX11_compares_22, sX11_compares_23, sX11_compares_24, sX11_compares_27, sX11_compares_29, sX11_compares_31, sX11_compares_34, sX11_compares_37, sX11_compares_38, sX11_compares_41, sX11_compares_42, sX11_compares_43, sX11_compares_44, sX11_compares_47, sX11_compares_48, sX11_compares_49, sX11_compares_52, sX11_compares_53, sX11_compares_56, sX11_compares_58, sX11_compares_60, sX11_compares_62, sX11_compares_65, sX11_compares_66, sX11_compares_68, sX11_compares_71, sX11_compares_72, sX11_compares_75, sX11_compares_76, sX11_compares_79, sX11_compares_81, sX11_compares_83, sX11_compares_86, sX11_compares_87, sX11_compares_89, sX11_compares_92, sX11_compares_93, sX11_compares_96, sX11_compares_97, sX11_compares_100, sX11_compares_101, sX11_compares_103, sX11_compares_106, sX11_compares_107, sX11_compares_110, sX11_compares_111, kI_i, kL_l, kV_v, am_rv_s, am_kl_i, am_kl_r, am_kl_n, am_kl_l, true_and, and_true, and_self, true_or, or_true, implies_true, forall_const, not_true_eq_false, not_false_eq_true, false_implies, true_implies, if_true, if_false, Bool.true_eq_false, Bool.false_eq_true, ob_457, e', gI_md1, nI_m1]
  | true =>
    obtain ⟨rfl, rfl, rfl, r3, r4⟩ := r1 rfl
    obtain ⟨v', q', f', dp', e2, s1, s2⟩ := lm_cmp (one := w) (C0 := [] ++ cc) h hS hP (CV_mono r3 (by omega)) r4 (by omega) hq.2
    refine ⟨v', q', f', dp', fun D Q hD => ?_, s1, s2⟩
    obtain ⟨d, rfl⟩ : ∃ d, D = d + 1 := ⟨D - 1, by omega⟩
    show am_big (d + 1) mX11_compares [.ref 457, .int 0, .int 0] 488 _ Q = _
    rw [eX11_compares, ← e2 d Q 0 0 (by omega) (by omega)]
    simp (disch := (first | assumption | omega | decide)) only [sX11_compares_0, sX11_compares_1, sX11_compares_4, sX11_compares_5, sX11_compares_8, sX11_compares_9, sX11_compares_12, sX11_compares_14, sX11_compares_17, sX11_compares_18, sX11_compares_21, sX11_compares_22, sX11_compares_23, sX11_compares_24, sX11_compares_27, sX11_compares_29, sX11_compares_31, sX11_compares_34, sX11_compares_37, sX11_compares_38, sX11_compares_41, sX11_compares_42, sX11_compares_43, sX11_compares_44, sX11_compares_47, sX11_compares_48, sX11_compares_49, sX11_compares_52, sX11_compares_53, sX11_compares_56, sX11_compares_58, sX11_compares_60, sX11_compares_62, sX11_compares_65, sX11_compares_66, sX11_compares_68, sX11_compares_71, sX11_compares_72, sX11_compares_75, sX11_compares_76, sX11_compares_79, sX11_compares_81, sX11_compares_83, sX11_compares_86, sX11_compares_87, sX11_compares_89, sX11_compares_92, sX11_compares_93, sX11_compares_96, sX11_compares_97, sX11_compares_100, sX11_compares_101, sX11_compares_103, sX11_compares_106, sX11_compares_107, sX11_compares_110, sX11_compares_111, kI_i, kL_l, kV_v, am_rv_s, am_kl_i, am_kl_r, am_kl_n, am_kl_l, true_and, and_true, and_self, true_or, or_true, implies_true, forall_const, not_true_eq_false, not_false_eq_true, false_implies, true_implies, if_true, if_false, Bool.true_eq_false, Bool.false_eq_true, ob_457, e']
def nb (v : Int32) : Int32 := if v = 0 then 1 else 0
theorem nb_1 {v : Int32} (h : is01 v = true) : nb v = 1 - v := by
  unfold is01 at h
  simp only [Bool.or_eq_true, decide_eq_true_eq] at h
  rcases h with rfl | rfl <;> decide
theorem MK_unit {lv ku kc : Nat} {U : Option ((Nat → PR) × (Nat → PR))} {S : Nat → PR} {k : Nat} (h : PB M b beg T len) (hlv : lv ≤ 6) (hU : ∀ u, U = some u → 0 < lv ∧ gd len u.1 ∧ gd len u.2 ∧ MB M L len K mX11_unit [] (dpt (lv - 1)) u.1 ku [] ∧ MB M L len K mX11_condition [.int 0, .int 0] (dpt (lv - 1)) u.2 kc []) (hN : U = none → lv = 0) (hC : MB M L len K mX11_compares [.int 0, .int 0] (dpt lv) (scmF T len S) k []) (hK : 2 ≤ K) (hku : ku ≤ k) (hkc : kc ≤ k) : MB M L len (K + 1) mX11_unit [] (dpt lv) (unitF T len U S) k [] := by
  intro p hp0 hp
  have hlen := h.2.2.2.2.1
  have hs := skp_le' (T := T) hp
  have hg := skp_ge (T := T) (len := len) (p := p)
  have n40 : ((40 : Int32) = 33) = False := eq_false (by decide)
  unfold unitF
  by_cases c1 : sg T len (skp T len p) = 33
  · have hlt := sg_lt c1 (by decide)
    rw [if_pos c1]
    cases U with
    | none =>
      have e6 : dpt lv = 6 := by rw [hN rfl]; decide
      refine ⟨0, skp T len p, nI (skp T len p), dpt lv, fun D Q hD => ?_, fun z => (by cases z), fun _ => rfl, (by decide)⟩
      obtain ⟨d, rfl⟩ : ∃ d, D = d + 3 := ⟨D - 3, by omega⟩
      show am_big (d + 2 + 1) mX11_unit [.ref 457] 488 _ Q = _
      rw [eX11_unit]
      simp (disch := (first | assumption | omega | decide)) only [sX11_unit_0, sX11_unit_1, sX11_unit_4, sX11_unit_5, sX11_unit_6, sX11_unit_8, sX11_unit_11, sX11_unit_12, sX11_unit_15, sX11_unit_18, sX11_unit_19, sX11_unit_20, sX11_unit_21, sX11_unit_24, sX11_unit_25, sX11_unit_26, sX11_unit_27, sX11_unit_30, sX11_unit_31, sX11_unit_32, sX11_unit_35, sX11_unit_36, sX11_unit_39, sX11_unit_40, sX11_unit_43, sX11_unit_44, sX11_unit_45, sX11_unit_46, sX11_unit_48, sX11_unit_51, sX11_unit_52, sX11_unit_55, sX11_unit_58, sX11_unit_59, sX11_unit_60, sX11_unit_61, sX11_unit_62, sX11_unit_63, sX11_unit_66, sX11_unit_67, sX11_unit_68, sX11_unit_70, sX11_unit_73, sX11_unit_76, sX11_unit_77, sX11_unit_78, sX11_unit_79, sX11_unit_80, sX11_unit_83, sX11_unit_84, sX11_unit_85, sX11_unit_88, sX11_unit_89, sX11_unit_90, sX11_unit_91, sX11_unit_92, sX11_unit_93, sX11_unit_96, kI_i, kL_l, kV_v, am_rv_s, am_kl_i, am_kl_r, am_kl_n, am_kl_l, true_and, and_true, and_self, true_or, or_true, implies_true, forall_const, not_true_eq_false, not_false_eq_true, false_implies, true_implies, if_true, if_false, Bool.true_eq_false, Bool.false_eq_true, ob_457, md_look h, c1, md_goesIn6 e6]
    | some u =>
      obtain ⟨hl0, hg1, hg2, hP1, hP2⟩ := hU u rfl
      obtain ⟨d1, d2, d3⟩ := dpt6 hl0 hlv
      have hq := hg1 (skp T len p + 1) (by omega)
      obtain ⟨w, q, f, dp, e, r1, r2, r4⟩ := hP1 (skp T len p + 1) (by omega) (by omega)
      have e' : ∀ D (Q : am_Q), K ≤ D → am_big D mX11_unit [.ref 457] 488 (md M (skp T len p + 1) (-1) (dpt (lv - 1))) Q = Q (some (.int w)) (md M q f dp) := e
      simp only
      generalize hr : u.1 (skp T len p + 1) = r at r1 r2 hq
      obtain ⟨ok1, q1, cc⟩ := r
      simp only at r1 r2 hq
      have st : ∀ D (Q : am_Q), K + 1 ≤ D → am_big D mX11_unit [.ref 457] 488 (md M p (-1) (dpt lv)) Q = Q (some (.int (nb w))) (md M q f (dp - 1)) := fun D Q hD => by
        obtain ⟨d, rfl⟩ : ∃ d, D = d + 3 := ⟨D - 3, by omega⟩
        show am_big (d + 2 + 1) mX11_unit [.ref 457] 488 _ Q = _
        rw [eX11_unit]
        unfold nb
        by_cases z : w = 0
        · simp (disch := (first | assumption | omega | decide)) only [sX11_unit_0, sX11_unit_1, sX11_unit_4, sX11_unit_5, sX11_unit_6, sX11_unit_8, sX11_unit_11, sX11_unit_12, sX11_unit_15, sX11_unit_18, sX11_unit_19, sX11_unit_20, sX11_unit_21, sX11_unit_24, sX11_unit_25, sX11_unit_26, sX11_unit_27, sX11_unit_30, sX11_unit_31, sX11_unit_32, sX11_unit_35, sX11_unit_36, sX11_unit_39, sX11_unit_40, sX11_unit_43, sX11_unit_44, sX11_unit_45, sX11_unit_46, sX11_unit_48, sX11_unit_51, sX11_unit_52, sX11_unit_55, sX11_unit_58, sX11_unit_59, sX11_unit_60, sX11_unit_61, sX11_unit_62, sX11_unit_63, sX11_unit_66, sX11_unit_67, sX11_unit_68, sX11_unit_70, sX11_unit_73, sX11_unit_76, sX11_unit_77, sX11_unit_78, sX11_unit_79, sX11_unit_80, sX11_unit_83, sX11_unit_84, sX11_unit_85, sX11_unit_88, sX11_unit_89, sX11_unit_90, sX11_unit_91, sX11_unit_92, sX11_unit_93, sX11_unit_96, kI_i, kL_l, kV_v, am_rv_s, am_kl_i, am_kl_r, am_kl_n, am_kl_l, true_and, and_true, and_self, true_or, or_true, implies_true, forall_const, not_true_eq_false, not_false_eq_true, false_implies, true_implies, if_true, if_false, Bool.true_eq_false, Bool.false_eq_true, ob_457, md_look h, c1, md_goesIn d1, d2, i01, e', gI_md2, md_dp, z]
        · simp (disch := (first | assumption | omega | decide)) only [sX11_unit_0, sX11_unit_1, sX11_unit_4, sX11_unit_5, sX11_unit_6, sX11_unit_8, sX11_unit_11, sX11_unit_12, sX11_unit_15, sX11_unit_18, sX11_unit_19, sX11_unit_20, sX11_unit_21, sX11_unit_24, sX11_unit_25, sX11_unit_26, sX11_unit_27, sX11_unit_30, sX11_unit_31, sX11_unit_32, sX11_unit_35, sX11_unit_36, sX11_unit_39, sX11_unit_40, sX11_unit_43, sX11_unit_44, sX11_unit_45, sX11_unit_46, sX11_unit_48, sX11_unit_51, sX11_unit_52, sX11_unit_55, sX11_unit_58, sX11_unit_59, sX11_unit_60, sX11_unit_61, sX11_unit_62, sX11_unit_63, sX11_unit_66, sX11_unit_67, sX11_unit_68, sX11_unit_70, sX11_unit_73, sX11_unit_76, sX11_unit_77, sX11_unit_78, sX11_unit_79, sX11_unit_80, sX11_unit_83, sX11_unit_84, sX11_unit_85, sX11_unit_88, sX11_unit_89, sX11_unit_90, sX11_unit_91, sX11_unit_92, sX11_unit_93, sX11_unit_96, kI_i, kL_l, kV_v, am_rv_s, am_kl_i, am_kl_r, am_kl_n, am_kl_l, true_and, and_true, and_self, true_or, or_true, implies_true, forall_const, not_true_eq_false, not_false_eq_true, false_implies, true_implies, if_true, if_false, Bool.true_eq_false, Bool.false_eq_true, ob_457, md_look h, c1, md_goesIn d1, d2, i01, e', gI_md2, md_dp, z]
      cases ok1 with
      | false => exact ⟨_, _, _, _, st, fun z => (by cases z), fun _ => r2 rfl, (by rw [nb_1 r4]; exact not_is01 r4)⟩
      | true =>
        obtain ⟨rfl, rfl, rfl, r3⟩ := r1 rfl
        refine ⟨_, _, _, _, st, fun _ => ⟨rfl, rfl, d3, ?_⟩, fun z => (by cases z), (by rw [nb_1 r4]; exact not_is01 r4)⟩
        rw [nb_1 r4]; exact CV_mono (CV_not r3 r4) hku
  · rw [if_neg c1]
    by_cases c2 : sg T len (skp T len p) = 40
    · have hlt := sg_lt c2 (by decide)
      rw [if_pos c2]
      cases U with
      | none =>
        have e6 : dpt lv = 6 := by rw [hN rfl]; decide
        refine ⟨0, skp T len p, nI (skp T len p), dpt lv, fun D Q hD => ?_, fun z => (by cases z), fun _ => rfl, (by decide)⟩
        obtain ⟨d, rfl⟩ : ∃ d, D = d + 3 := ⟨D - 3, by omega⟩
        show am_big (d + 2 + 1) mX11_unit [.ref 457] 488 _ Q = _
        rw [eX11_unit]
        simp (disch := (first | assumption | omega | decide)) only [sX11_unit_0, sX11_unit_1, sX11_unit_4, sX11_unit_5, sX11_unit_6, sX11_unit_8, sX11_unit_11, sX11_unit_12, sX11_unit_15, sX11_unit_18, sX11_unit_19, sX11_unit_20, sX11_unit_21, sX11_unit_24, sX11_unit_25, sX11_unit_26, sX11_unit_27, sX11_unit_30, sX11_unit_31, sX11_unit_32, sX11_unit_35, sX11_unit_36, sX11_unit_39, sX11_unit_40, sX11_unit_43, sX11_unit_44, sX11_unit_45, sX11_unit_46, sX11_unit_48, sX11_unit_51, sX11_unit_52, sX11_unit_55, sX11_unit_58, sX11_unit_59, sX11_unit_60, sX11_unit_61, sX11_unit_62, sX11_unit_63, sX11_unit_66, sX11_unit_67, sX11_unit_68, sX11_unit_70, sX11_unit_73, sX11_unit_76, sX11_unit_77, sX11_unit_78, sX11_unit_79, sX11_unit_80, sX11_unit_83, sX11_unit_84, sX11_unit_85, sX11_unit_88, sX11_unit_89, sX11_unit_90, sX11_unit_91, sX11_unit_92, sX11_unit_93, sX11_unit_96, kI_i, kL_l, kV_v, am_rv_s, am_kl_i, am_kl_r, am_kl_n, am_kl_l, true_and, and_true, and_self, true_or, or_true, implies_true, forall_const, not_true_eq_false, not_false_eq_true, false_implies, true_implies, if_true, if_false, Bool.true_eq_false, Bool.false_eq_true, ob_457, md_look h, c2, n40, md_goesIn6 e6]
      | some u =>
        obtain ⟨hl0, hg1, hg2, hP1, hP2⟩ := hU u rfl
        obtain ⟨d1, d2, d3⟩ := dpt6 hl0 hlv
        have hq := hg2 (skp T len p + 1) (by omega)
        obtain ⟨w, q, f, dp, e, r1, r2, r4⟩ := hP2 (skp T len p + 1) (by omega) (by omega)
        have e' : ∀ D (Q : am_Q), K ≤ D → am_big D mX11_condition [.ref 457, .int 0, .int 0] 488 (md M (skp T len p + 1) (-1) (dpt (lv - 1))) Q = Q (some (.int w)) (md M q f dp) := e
        unfold clsF
        simp only
        generalize hr : u.2 (skp T len p + 1) = r at r1 r2 hq
        obtain ⟨ok1, q1, cc⟩ := r
        simp only at r1 r2 hq
        cases ok1 with
        | false =>
          have r2 := r2 rfl
          subst r2
          refine ⟨0, q, nI q1, dp, fun D Q hD => ?_, fun z => (by cases z), fun _ => rfl, (by decide)⟩
          obtain ⟨d, rfl⟩ : ∃ d, D = d + 3 := ⟨D - 3, by omega⟩
          show am_big (d + 2 + 1) mX11_unit [.ref 457] 488 _ Q = _
          rw [eX11_unit]
          simp (disch := (first | assumption | omega | decide)) only [sX11_unit_0, sX11_unit_1, sX11_unit_4, sX11_unit_5, sX11_unit_6, sX11_unit_8, sX11_unit_11, sX11_unit_12, sX11_unit_15, sX11_unit_18, sX11_unit_19, sX11_unit_20, sX11_unit_21, sX11_unit_24, sX11_unit_25, sX11_unit_26, sX11_unit_27, sX11_unit_30, sX11_unit_31, sX11_unit_32, sX11_unit_35, sX11_unit_36, sX11_unit_39, sX11_unit_40, sX11_unit_43, sX11_unit_44, sX11_unit_45, sX11_unit_46, sX11_unit_48, sX11_unit_51, sX11_unit_52, sX11_unit_55, sX11_unit_58, sX11_unit_59, sX11_unit_60, sX11_unit_61, sX11_unit_62, sX11_unit_63, sX11_unit_66, sX11_unit_67, sX11_unit_68, sX11_unit_70, sX11_unit_73, sX11_unit_76, sX11_unit_77, sX11_unit_78, sX11_unit_79, sX11_unit_80, sX11_unit_83, sX11_unit_84, sX11_unit_85, sX11_unit_88, sX11_unit_89, sX11_unit_90, sX11_unit_91, sX11_unit_92, sX11_unit_93, sX11_unit_96, kI_i, kL_l, kV_v, am_rv_s, am_kl_i, am_kl_r, am_kl_n, am_kl_l, true_and, and_true, and_self, true_or, or_true, implies_true, forall_const, not_true_eq_false, not_false_eq_true, false_implies, true_implies, if_true, if_false, Bool.true_eq_false, Bool.false_eq_true, ob_457, md_look h, c2, n40, md_goesIn d1, d2, i01, e', md_takes1]
        | true =>
          obtain ⟨rfl, rfl, rfl, r3⟩ := r1 rfl
          simp only [if_true]
          by_cases c3 : sg T len (skp T len q) = 41
          · rw [if_pos c3]
            refine ⟨w, skp T len q + 1, -1, dpt lv, fun D Q hD => ?_, fun _ => ⟨rfl, rfl, rfl, CV_mono r3 hkc⟩, fun z => (by cases z), r4⟩
            obtain ⟨d, rfl⟩ : ∃ d, D = d + 3 := ⟨D - 3, by omega⟩
            show am_big (d + 2 + 1) mX11_unit [.ref 457] 488 _ Q = _
            have r4' : (w = 0 ∨ w = 1) = True := eq_true (by unfold is01 at r4; simpa using r4)
            rw [eX11_unit]
            simp (disch := (first | assumption | omega | decide)) only [sX11_unit_0, sX11_unit_1, sX11_unit_4, sX11_unit_5, sX11_unit_6, sX11_unit_8, sX11_unit_11, sX11_unit_12, sX11_unit_15, sX11_unit_18, sX11_unit_19, sX11_unit_20, sX11_unit_21, sX11_unit_24, sX11_unit_25, sX11_unit_26, sX11_unit_27, sX11_unit_30, sX11_unit_31, sX11_unit_32, sX11_unit_35, sX11_unit_36, sX11_unit_39, sX11_unit_40, sX11_unit_43, sX11_unit_44, sX11_unit_45, sX11_unit_46, sX11_unit_48, sX11_unit_51, sX11_unit_52, sX11_unit_55, sX11_unit_58, sX11_unit_59, sX11_unit_60, sX11_unit_61, sX11_unit_62, sX11_unit_63, sX11_unit_66, sX11_unit_67, sX11_unit_68, sX11_unit_70, sX11_unit_73, sX11_unit_76, sX11_unit_77, sX11_unit_78, sX11_unit_79, sX11_unit_80, sX11_unit_83, sX11_unit_84, sX11_unit_85, sX11_unit_88, sX11_unit_89, sX11_unit_90, sX11_unit_91, sX11_unit_92, sX11_unit_93, sX11_unit_96, kI_i, kL_l, kV_v, am_rv_s, am_kl_i, am_kl_r, am_kl_n, am_kl_l, true_and, and_true, and_self, true_or, or_true, implies_true, forall_const, not_true_eq_false, not_false_eq_true, false_implies, true_implies, if_true, if_false, Bool.true_eq_false, Bool.false_eq_true, ob_457, md_look h, c2, n40, md_goesIn d1, d2, d3, i01, e', md_takes h, c3, gI_md2, md_dp, r4']
          · rw [if_neg c3]
            refine ⟨0, skp T len q, nI (skp T len q), dpt (lv - 1), fun D Q hD => ?_, fun z => (by cases z), fun _ => rfl, (by decide)⟩
            obtain ⟨d, rfl⟩ : ∃ d, D = d + 3 := ⟨D - 3, by omega⟩
            show am_big (d + 2 + 1) mX11_unit [.ref 457] 488 _ Q = _
            rw [eX11_unit]
            simp (disch := (first | assumption | omega | decide)) only [sX11_unit_0, sX11_unit_1, sX11_unit_4, sX11_unit_5, sX11_unit_6, sX11_unit_8, sX11_unit_11, sX11_unit_12, sX11_unit_15, sX11_unit_18, sX11_unit_19, sX11_unit_20, sX11_unit_21, sX11_unit_24, sX11_unit_25, sX11_unit_26, sX11_unit_27, sX11_unit_30, sX11_unit_31, sX11_unit_32, sX11_unit_35, sX11_unit_36, sX11_unit_39, sX11_unit_40, sX11_unit_43, sX11_unit_44, sX11_unit_45, sX11_unit_46, sX11_unit_48, sX11_unit_51, sX11_unit_52, sX11_unit_55, sX11_unit_58, sX11_unit_59, sX11_unit_60, sX11_unit_61, sX11_unit_62, sX11_unit_63, sX11_unit_66, sX11_unit_67, sX11_unit_68, sX11_unit_70, sX11_unit_73, sX11_unit_76, sX11_unit_77, sX11_unit_78, sX11_unit_79, sX11_unit_80, sX11_unit_83, sX11_unit_84, sX11_unit_85, sX11_unit_88, sX11_unit_89, sX11_unit_90, sX11_unit_91, sX11_unit_92, sX11_unit_93, sX11_unit_96, kI_i, kL_l, kV_v, am_rv_s, am_kl_i, am_kl_r, am_kl_n, am_kl_l, true_and, and_true, and_self, true_or, or_true, implies_true, forall_const, not_true_eq_false, not_false_eq_true, false_implies, true_implies, if_true, if_false, Bool.true_eq_false, Bool.false_eq_true, ob_457, md_look h, c2, n40, md_goesIn d1, d2, i01, e', md_takes h, c3]
    · rw [if_neg c2]
      obtain ⟨w, q, f, dp, e, r1, r2, r4⟩ := hC (skp T len p) (by omega) hs
      have e' : ∀ D (Q : am_Q), K ≤ D → am_big D mX11_compares [.ref 457, .int 0, .int 0] 488 (md M (skp T len p) (-1) (dpt lv)) Q = Q (some (.int w)) (md M q f dp) := e
      have r4' : (w = 0 ∨ w = 1) = True := eq_true (by unfold is01 at r4; simpa using r4)
      refine ⟨w, q, f, dp, fun D Q hD => ?_, r1, r2, r4⟩
      obtain ⟨d, rfl⟩ : ∃ d, D = d + 3 := ⟨D - 3, by omega⟩
      show am_big (d + 2 + 1) mX11_unit [.ref 457] 488 _ Q = _
      rw [eX11_unit]
      simp (disch := (first | assumption | omega | decide)) only [sX11_unit_0, sX11_unit_1, sX11_unit_4, sX11_unit_5, sX11_unit_6, sX11_unit_8, sX11_unit_11, sX11_unit_12, sX11_unit_15, sX11_unit_18, sX11_unit_19, sX11_unit_20, sX11_unit_21, sX11_unit_24, sX11_unit_25, sX11_unit_26, sX11_unit_27, sX11_unit_30, sX11_unit_31, sX11_unit_32, sX11_unit_35, sX11_unit_36, sX11_unit_39, sX11_unit_40, sX11_unit_43, sX11_unit_44, sX11_unit_45, sX11_unit_46, sX11_unit_48, sX11_unit_51, sX11_unit_52, sX11_unit_55, sX11_unit_58, sX11_unit_59, sX11_unit_60, sX11_unit_61, sX11_unit_62, sX11_unit_63, sX11_unit_66, sX11_unit_67, sX11_unit_68, sX11_unit_70, sX11_unit_73, sX11_unit_76, sX11_unit_77, sX11_unit_78, sX11_unit_79, sX11_unit_80, sX11_unit_83, sX11_unit_84, sX11_unit_85, sX11_unit_88, sX11_unit_89, sX11_unit_90, sX11_unit_91, sX11_unit_92, sX11_unit_93, sX11_unit_96, kI_i, kL_l, kV_v, am_rv_s, am_kl_i, am_kl_r, am_kl_n, am_kl_l, true_and, and_true, and_self, true_or, or_true, implies_true, forall_const, not_true_eq_false, not_false_eq_true, false_implies, true_implies, if_true, if_false, Bool.true_eq_false, Bool.false_eq_true, ob_457, md_look h, c1, c2, e', r4']
def fa (is w : Int32) : Int32 := if is = 0 then 0 else if w = 0 then 0 else 1
theorem fa_jn {is w : Int32} (h1 : is01 is = true) (h2 : is01 w = true) : fa is w = jn is 38 w := by
  unfold is01 at h1 h2
  simp only [Bool.or_eq_true, decide_eq_true_eq] at h1 h2
  rcases h1 with rfl | rfl <;> rcases h2 with rfl | rfl <;> decide
theorem lm_part {dep : Int32} {A : Nat → PR} {k kA : Nat} {C0 : List Int32} (h : PB M b beg T len) (hA : gd len A) (hP : MB M L len K mX11_unit [] dep A kA []) (hk : kA + 1 ≤ k) : ∀ (j p : Nat) (c : List Int32) (is : Int32), p ≤ len → len - p < j → CV L (C0 ++ c) k is → is01 is = true → ∃ v' q f dp, (∀ d (Q : am_Q) l1 l2 l4, K ≤ d → 2 ≤ d → ok d mX11_part 488 Q 488 0 0 18 [some (.ref 457), some (.int l1), some (.int l2), some (.int is), l4] [] (md M p (-1) dep) = Q (some (.int v')) (md M q f dp)) ∧ ((opL T len isAn A j p c).1 = true → q = (opL T len isAn A j p c).2.1 ∧ f = -1 ∧ dp = dep ∧ CV L (C0 ++ (opL T len isAn A j p c).2.2) k v') ∧ ((opL T len isAn A j p c).1 = false → f = nI (opL T len isAn A j p c).2.1) ∧ is01 v' = true := by
  have hlen := h.2.2.2.2.1
  intro j
  induction j with
  | zero => intro p c v _ hj; omega
  | succ j ih =>
    intro p c is hp hj hcv his
    have hs := skp_le' (T := T) hp
    have hg := skp_ge (T := T) (len := len) (p := p)
    have his' : (is = 0 ∨ is = 1) = True := eq_true (by unfold is01 at his; simpa using his)
    unfold opL
    by_cases c1 : sg T len (skp T len p) = 38
    · have c1' : isAn (sg T len (skp T len p)) = true := by rw [c1]; decide
      have hlt := sg_lt c1 (by decide)
      have hq := hA (skp T len p + 1) (by omega)
      obtain ⟨w, q, f, dp, e, r1, r2, r4⟩ := hP (skp T len p + 1) (by omega) (by omega)
      have e' : ∀ D (Q : am_Q), K ≤ D → am_big D mX11_unit [.ref 457] 488 (md M (skp T len p + 1) (-1) dep) Q = Q (some (.int w)) (md M q f dp) := e
      rw [if_pos c1']
      generalize hr : A (skp T len p + 1) = r at r1 r2 hq
      obtain ⟨ok1, q1, cc⟩ := r
      simp only at r1 r2 hq
      have hz := fa_jn his r4
      have hz1 : is01 (fa is w) = true := by rw [hz]; exact log_is01 (by decide) his r4
      have st : ∀ d (Q : am_Q) l1 l2 l4, K ≤ d → 2 ≤ d → ok d mX11_part 488 Q 488 0 0 18 [some (.ref 457), some (.int l1), some (.int l2), some (.int is), l4] [] (md M p (-1) dep) = ok d mX11_part 488 Q 488 0 0 18 [some (.ref 457), some (.int l1), some (.int l2), some (.int (fa is w)), some (.int w)] [] (md M q f dp) := fun d Q l1 l2 l4 hd hd2 => by
        obtain ⟨d', rfl⟩ : ∃ d', d = d' + 2 := ⟨d - 2, by omega⟩
        rw [sX11_part_18]
        unfold fa
        by_cases z1 : is = 0
        · by_cases z2 : w = 0
          · simp (disch := (first | assumption | omega | decide)) only [sX11_part_0, sX11_part_1, sX11_part_4, sX11_part_5, sX11_part_6, sX11_part_7, sX11_part_10, sX11_part_13, sX11_part_14, sX11_part_17, sX11_part_19, sX11_part_22, sX11_part_23, sX11_part_26, sX11_part_27, sX11_part_30, sX11_part_32, sX11_part_35, sX11_part_36, sX11_part_37, sX11_part_40, sX11_part_41, sX11_part_42, sX11_part_45, sX11_part_46, sX11_part_49, sX11_part_51, sX11_part_52, sX11_part_55, sX11_part_57, sX11_part_60, sX11_part_61, sX11_part_64, sX11_part_65, sX11_part_66, sX11_part_69, sX11_part_70, kI_i, kL_l, kV_v, am_rv_s, am_kl_i, am_kl_r, am_kl_n, am_kl_l, true_and, and_true, and_self, true_or, or_true, implies_true, forall_const, not_true_eq_false, not_false_eq_true, false_implies, true_implies, if_true, if_false, Bool.true_eq_false, Bool.false_eq_true, ob_457, gI_md1, md_look h, c1, gI_md0, nI_1, md_at, e', z1, z2]
          · simp (disch := (first | assumption | omega | decide)) only [sX11_part_0, sX11_part_1, sX11_part_4, sX11_part_5, sX11_part_6, sX11_part_7, sX11_part_10, sX11_part_13, sX11_part_14, sX11_part_17, sX11_part_19, sX11_part_22, sX11_part_23, sX11_part_26, sX11_part_27, sX11_part_30, sX11_part_32, sX11_part_35, sX11_part_36, sX11_part_37, sX11_part_40, sX11_part_41, sX11_part_42, sX11_part_45, sX11_part_46, sX11_part_49, sX11_part_51, sX11_part_52, sX11_part_55, sX11_part_57, sX11_part_60, sX11_part_61, sX11_part_64, sX11_part_65, sX11_part_66, sX11_part_69, sX11_part_70, kI_i, kL_l, kV_v, am_rv_s, am_kl_i, am_kl_r, am_kl_n, am_kl_l, true_and, and_true, and_self, true_or, or_true, implies_true, forall_const, not_true_eq_false, not_false_eq_true, false_implies, true_implies, if_true, if_false, Bool.true_eq_false, Bool.false_eq_true, ob_457, gI_md1, md_look h, c1, gI_md0, nI_1, md_at, e', z1, z2]
        · by_cases z2 : w = 0
          · simp (disch := (first | assumption | omega | decide)) only [sX11_part_0, sX11_part_1, sX11_part_4, sX11_part_5, sX11_part_6, sX11_part_7, sX11_part_10, sX11_part_13, sX11_part_14, sX11_part_17, sX11_part_19, sX11_part_22, sX11_part_23, sX11_part_26, sX11_part_27, sX11_part_30, sX11_part_32, sX11_part_35, sX11_part_36, sX11_part_37, sX11_part_40, sX11_part_41, sX11_part_42, sX11_part_45, sX11_part_46, sX11_part_49, sX11_part_51, sX11_part_52, sX11_part_55, sX11_part_57, sX11_part_60, sX11_part_61, sX11_part_64, sX11_part_65, sX11_part_66, sX11_part_69, sX11_part_70, kI_i, kL_l, kV_v, am_rv_s, am_kl_i, am_kl_r, am_kl_n, am_kl_l, true_and, and_true, and_self, true_or, or_true, implies_true, forall_const, not_true_eq_false, not_false_eq_true, false_implies, true_implies, if_true, if_false, Bool.true_eq_false, Bool.false_eq_true, ob_457, gI_md1, md_look h, c1, gI_md0, nI_1, md_at, e', z1, z2]
          · simp (disch := (first | assumption | omega | decide)) only [sX11_part_0, sX11_part_1, sX11_part_4, sX11_part_5, sX11_part_6, sX11_part_7, sX11_part_10, sX11_part_13, sX11_part_14, sX11_part_17, sX11_part_19, sX11_part_22, sX11_part_23, sX11_part_26, sX11_part_27, sX11_part_30, sX11_part_32, sX11_part_35, sX11_part_36, sX11_part_37, sX11_part_40, sX11_part_41, sX11_part_42, sX11_part_45, sX11_part_46, sX11_part_49, sX11_part_51, sX11_part_52, sX11_part_55, sX11_part_57, sX11_part_60, sX11_part_61, sX11_part_64, sX11_part_65, sX11_part_66, sX11_part_69, sX11_part_70, kI_i, kL_l, kV_v, am_rv_s, am_kl_i, am_kl_r, am_kl_n, am_kl_l, true_and, and_true, and_self, true_or, or_true, implies_true, forall_const, not_true_eq_false, not_false_eq_true, false_implies, true_implies, if_true, if_false, Bool.true_eq_false, Bool.false_eq_true, ob_457, gI_md1, md_look h, c1, gI_md0, nI_1, md_at, e', z1, z2]
      cases ok1 with
      | false =>
        have r2 := r2 rfl
        subst r2
        refine ⟨fa is w, q, nI q1, dp, fun d Q l1 l2 l4 hd hd2 => ?_, fun z => (by cases z), fun _ => rfl, hz1⟩
        have hz2 : (fa is w = 0 ∨ fa is w = 1) = True := eq_true (by unfold is01 at hz1; simpa using hz1)
        rw [st d Q l1 l2 l4 hd hd2, sX11_part_18]
        simp (disch := (first | assumption | omega | decide)) only [sX11_part_0, sX11_part_1, sX11_part_4, sX11_part_5, sX11_part_6, sX11_part_7, sX11_part_10, sX11_part_13, sX11_part_14, sX11_part_17, sX11_part_19, sX11_part_22, sX11_part_23, sX11_part_26, sX11_part_27, sX11_part_30, sX11_part_32, sX11_part_35, sX11_part_36, sX11_part_37, sX11_part_40, sX11_part_41, sX11_part_42, sX11_part_45, sX11_part_46, sX11_part_49, sX11_part_51, sX11_part_52, sX11_part_55, sX11_part_57, sX11_part_60, sX11_part_61, sX11_part_64, sX11_part_65, sX11_part_66, sX11_part_69, sX11_part_70, kI_i, kL_l, kV_v, am_rv_s, am_kl_i, am_kl_r, am_kl_n, am_kl_l, true_and, and_true, and_self, true_or, or_true, implies_true, forall_const, not_true_eq_false, not_false_eq_true, false_implies, true_implies, if_true, if_false, Bool.true_eq_false, Bool.false_eq_true, ob_457, gI_md1, nI_m1, hz2]
      | true =>
        obtain ⟨rfl, rfl, rfl, r3⟩ := r1 rfl
        have hcv2 := CV_log (s := 38) hcv r3 (Nat.le_refl _) hk (by decide) his r4
        rw [List.append_assoc C0, List.append_assoc C0] at hcv2
        obtain ⟨v', q', f', dp', e2, s1, s2⟩ := ih q (c ++ cc ++ [20000 + sg T len (skp T len p)]) (jn is 38 w) hq.2 (by omega) (by rw [c1]; exact hcv2) (by rw [← hz]; exact hz1)
        refine ⟨v', q', f', dp', fun d Q l1 l2 l4 hd hd2 => ?_, s1, s2⟩
        rw [st d Q l1 l2 l4 hd hd2, hz]
        exact e2 d Q _ _ _ hd hd2
    · have c1' : ¬ isAn (sg T len (skp T len p)) = true := by unfold isAn; simpa using c1
      rw [if_neg c1']
      refine ⟨is, skp T len p, -1, dep, fun d Q l1 l2 l4 hd hd2 => ?_, fun _ => ⟨rfl, rfl, rfl, hcv⟩, fun z => (by cases z), his⟩
      obtain ⟨d', rfl⟩ : ∃ d', d = d' + 2 := ⟨d - 2, by omega⟩
      rw [sX11_part_18]
      simp (disch := (first | assumption | omega | decide)) only [sX11_part_0, sX11_part_1, sX11_part_4, sX11_part_5, sX11_part_6, sX11_part_7, sX11_part_10, sX11_part_13, sX11_part_14, sX11_part_17, sX11_part_19, sX11_part_22, sX11_part_23, sX11_part_26, sX11_part_27, sX11_part_30, sX11_part_32, sX11_part_35, sX11_part_36, sX11_part_37, sX11_part_40, sX11_part_41, sX11_part_42, sX11_part_45, sX11_part_46, sX11_part_49, sX11_part_51, sX11_part_52, sX11_part_55, sX11_part_57, sX11_part_60, sX11_part_61, sX11_part_64, sX11_part_65, sX11_part_66, sX11_part_69, sX11_part_70, kI_i, kL_l, kV_v, am_rv_s, am_kl_i, am_kl_r, am_kl_n, am_kl_l, true_and, and_true, and_self, true_or, or_true, implies_true, forall_const, not_true_eq_false, not_false_eq_true, false_implies, true_implies, if_true, if_false, Bool.true_eq_false, Bool.false_eq_true, ob_457, gI_md1, md_look h, c1, his']
theorem MB_part0 {dep : Int32} {A0 A : Nat → PR} {k kA k0 : Nat} {C0 : List Int32} (h : PB M b beg T len) (hA0 : gd len A0) (hA : gd len A) (hP0 : MB M L len K mX11_unit [] dep A0 k0 C0) (hP : MB M L len K mX11_unit [] dep A kA []) (hk : kA + 1 ≤ k) (hk0 : k0 ≤ k) (hK : 2 ≤ K) : MB M L len (K + 1) mX11_part [.int 0, .int 0] dep (seqQ T len A0 isAn A) k C0 := by
  intro p hp0 hp
  have hlen := h.2.2.2.2.1
  obtain ⟨w, q, f, dp, e, r1, r2, r4⟩ := hP0 p hp0 hp
  have hq := hA0 p hp
  have e' : ∀ D (Q : am_Q), K ≤ D → am_big D mX11_unit [.ref 457] 488 (md M p (-1) dep) Q = Q (some (.int w)) (md M q f dp) := e
  have r4' : (w = 0 ∨ w = 1) = True := eq_true (by unfold is01 at r4; simpa using r4)
  unfold seqQ
  generalize hr : A0 p = r at r1 r2 hq
  obtain ⟨ok1, q1, cc⟩ := r
  simp only at r1 r2 hq
  cases ok1 with
  | false =>
    have r2 := r2 rfl
    subst r2
    refine ⟨w, q, nI q1, dp, fun D Q hD => ?_, fun z => (by cases z), fun _ => rfl, r4⟩
    obtain ⟨d, rfl⟩ : ∃ d, D = d + 1 := ⟨D - 1, by omega⟩
    show am_big (d + 1) mX11_part [.ref 457, .int 0, .int 0] 488 _ Q = _
    rw [eX11_part]
    simp (disch := (first | assumption | omega | decide)) only [sX11_part_0, sX11_part_1, sX11_part_4, sX11_part_5, sX11_part_6, sX11_part_7, sX11_part_10, sX11_part_13, sX11_part_14, sX11_part_17, sX11_part_19, sX11_part_22, sX11_part_23, sX11_part_26, sX11_part_27, sX11_part_30, sX11_part_32, sX11_part_35, sX11_part_36, sX11_part_37, sX11_part_40, sX11_part_41, sX11_part_42, sX11_part_45, sX11_part_46, sX11_part_49, sX11_part_51, sX11_part_52, sX11_part_55, sX11_part_57, sX11_part_60, sX11_part_61, sX11_part_64, sX11_part_65, sX11_part_66, sX11_part_69, sX11_part_70, kI_i, kL_l, kV_v, am_rv_s, am_kl_i, am_kl_r, am_kl_n, am_kl_l, true_and, and_true, and_self, true_or, or_true, implies_true, forall_const, not_true_eq_false, not_false_eq_true, false_implies, true_implies, if_true, if_false, Bool.true_eq_false, Bool.false_eq_true, ob_457, e', i01]
    rw [sX11_part_18]
    simp (disch := (first | assumption | omega | decide)) only [sX11_part_0, sX11_part_1, sX11_part_4, sX11_part_5, sX11_part_6, sX11_part_7, sX11_part_10, sX11_part_13, sX11_part_14, sX11_part_17, sX11_part_19, sX11_part_22, sX11_part_23, sX11_part_26, sX11_part_27, sX11_part_30, sX11_part_32, sX11_part_35, sX11_part_36, sX11_part_37, sX11_part_40, sX11_part_41, sX11_part_42, sX11_part_45, sX11_part_46, sX11_part_49, sX11_part_51, sX11_part_52, sX11_part_55, sX11_part_57, sX11_part_60, sX11_part_61, sX11_part_64, sX11_part_65, sX11_part_66, sX11_part_69, sX11_part_70, kI_i, kL_l, kV_v, am_rv_s, am_kl_i, am_kl_r, am_kl_n, am_kl_l, true_and, and_true, and_self, true_or, or_true, implies_true, forall_const, not_true_eq_false, not_false_eq_true, false_implies, true_implies, if_true, if_false, Bool.true_eq_false, Bool.false_eq_true, ob_457, gI_md1, nI_m1, r4']
  | true =>
    obtain ⟨rfl, rfl, rfl, r3⟩ := r1 rfl
    obtain ⟨v', q', f', dp', e2, s1, s2⟩ := lm_part (C0 := C0) h hA hP hk 240 q cc w hq.2 (by omega) (CV_mono r3 hk0) r4
    refine ⟨v', q', f', dp', fun D Q hD => ?_, s1, s2⟩
    obtain ⟨d, rfl⟩ : ∃ d, D = d + 1 := ⟨D - 1, by omega⟩
    show am_big (d + 1) mX11_part [.ref 457, .int 0, .int 0] 488 _ Q = _
    rw [eX11_part, ← e2 d Q 0 0 none (by omega) (by omega)]
    simp (disch := (first | assumption | omega | decide)) only [sX11_part_0, sX11_part_1, sX11_part_4, sX11_part_5, sX11_part_6, sX11_part_7, sX11_part_10, sX11_part_13, sX11_part_14, sX11_part_17, sX11_part_19, sX11_part_22, sX11_part_23, sX11_part_26, sX11_part_27, sX11_part_30, sX11_part_32, sX11_part_35, sX11_part_36, sX11_part_37, sX11_part_40, sX11_part_41, sX11_part_42, sX11_part_45, sX11_part_46, sX11_part_49, sX11_part_51, sX11_part_52, sX11_part_55, sX11_part_57, sX11_part_60, sX11_part_61, sX11_part_64, sX11_part_65, sX11_part_66, sX11_part_69, sX11_part_70, kI_i, kL_l, kV_v, am_rv_s, am_kl_i, am_kl_r, am_kl_n, am_kl_l, true_and, and_true, and_self, true_or, or_true, implies_true, forall_const, not_true_eq_false, not_false_eq_true, false_implies, true_implies, if_true, if_false, Bool.true_eq_false, Bool.false_eq_true, ob_457, e', i01]
theorem MB_part1 {dep : Int32} {one : Int32} {A0 A : Nat → PR} {k kA k0 : Nat} {C0 : List Int32} (h : PB M b beg T len) (hA0 : gd len A0) (hA : gd len A) (hP0 : MB M L len K mX11_compares [.int 1, .int one] dep A0 k0 C0) (hP : MB M L len K mX11_unit [] dep A kA []) (hk : kA + 1 ≤ k) (hk0 : k0 ≤ k) (hK : 2 ≤ K) : MB M L len (K + 1) mX11_part [.int 1, .int one] dep (seqQ T len A0 isAn A) k C0 := by
  intro p hp0 hp
  have hlen := h.2.2.2.2.1
  obtain ⟨w, q, f, dp, e, r1, r2, r4⟩ := hP0 p hp0 hp
  have hq := hA0 p hp
  have e' : ∀ D (Q : am_Q), K ≤ D → am_big D mX11_compares [.ref 457, .int 1, .int one] 488 (md M p (-1) dep) Q = Q (some (.int w)) (md M q f dp) := e
  have r4' : (w = 0 ∨ w = 1) = True := eq_true (by unfold is01 at r4; simpa using r4)
  unfold seqQ
  generalize hr : A0 p = r at r1 r2 hq
  obtain ⟨ok1, q1, cc⟩ := r
  simp only at r1 r2 hq
  cases ok1 with
  | false =>
    have r2 := r2 rfl
    subst r2
    refine ⟨w, q, nI q1, dp, fun D Q hD => ?_, fun z => (by cases z), fun _ => rfl, r4⟩
    obtain ⟨d, rfl⟩ : ∃ d, D = d + 1 := ⟨D - 1, by omega⟩
    show am_big (d + 1) mX11_part [.ref 457, .int 1, .int one] 488 _ Q = _
    rw [eX11_part]
    simp (disch := (first | assumption | omega | decide)) only [sX11_part_0, sX11_part_1, sX11_part_4, sX11_part_5, sX11_part_6, sX11_part_7, sX11_part_10, sX11_part_13, sX11_part_14, sX11_part_17, sX11_part_19, sX11_part_22, sX11_part_23, sX11_part_26, sX11_part_27, sX11_part_30, sX11_part_32, sX11_part_35, sX11_part_36, sX11_part_37, sX11_part_40, sX11_part_41, sX11_part_42, sX11_part_45, sX11_part_46, sX11_part_49, sX11_part_51, sX11_part_52, sX11_part_55, sX11_part_57, sX11_part_60, sX11_part_61, sX11_part_64, sX11_part_65, sX11_part_66, sX11_part_69, sX11_part_70, kI_i, kL_l, kV_v, am_rv_s, am_kl_i, am_kl_r, am_kl_n, am_kl_l, true_and, and_true, and_self, true_or, or_true, implies_true, forall_const, not_true_eq_false, not_false_eq_true, false_implies, true_implies, if_true, if_false, Bool.true_eq_false, Bool.false_eq_true, ob_457, e', i01]
    rw [sX11_part_18]
    simp (disch := (first | assumption | omega | decide)) only [sX11_part_0, sX11_part_1, sX11_part_4, sX11_part_5, sX11_part_6, sX11_part_7, sX11_part_10, sX11_part_13, sX11_part_14, sX11_part_17, sX11_part_19, sX11_part_22, sX11_part_23, sX11_part_26, sX11_part_27, sX11_part_30, sX11_part_32, sX11_part_35, sX11_part_36, sX11_part_37, sX11_part_40, sX11_part_41, sX11_part_42, sX11_part_45, sX11_part_46, sX11_part_49, sX11_part_51, sX11_part_52, sX11_part_55, sX11_part_57, sX11_part_60, sX11_part_61, sX11_part_64, sX11_part_65, sX11_part_66, sX11_part_69, sX11_part_70, kI_i, kL_l, kV_v, am_rv_s, am_kl_i, am_kl_r, am_kl_n, am_kl_l, true_and, and_true, and_self, true_or, or_true, implies_true, forall_const, not_true_eq_false, not_false_eq_true, false_implies, true_implies, if_true, if_false, Bool.true_eq_false, Bool.false_eq_true, ob_457, gI_md1, nI_m1, r4']
  | true =>
    obtain ⟨rfl, rfl, rfl, r3⟩ := r1 rfl
    obtain ⟨v', q', f', dp', e2, s1, s2⟩ := lm_part (C0 := C0) h hA hP hk 240 q cc w hq.2 (by omega) (CV_mono r3 hk0) r4
    refine ⟨v', q', f', dp', fun D Q hD => ?_, s1, s2⟩
    obtain ⟨d, rfl⟩ : ∃ d, D = d + 1 := ⟨D - 1, by omega⟩
    show am_big (d + 1) mX11_part [.ref 457, .int 1, .int one] 488 _ Q = _
    rw [eX11_part, ← e2 d Q 1 one none (by omega) (by omega)]
    simp (disch := (first | assumption | omega | decide)) only [sX11_part_0, sX11_part_1, sX11_part_4, sX11_part_5, sX11_part_6, sX11_part_7, sX11_part_10, sX11_part_13, sX11_part_14, sX11_part_17, sX11_part_19, sX11_part_22, sX11_part_23, sX11_part_26, sX11_part_27, sX11_part_30, sX11_part_32, sX11_part_35, sX11_part_36, sX11_part_37, sX11_part_40, sX11_part_41, sX11_part_42, sX11_part_45, sX11_part_46, sX11_part_49, sX11_part_51, sX11_part_52, sX11_part_55, sX11_part_57, sX11_part_60, sX11_part_61, sX11_part_64, sX11_part_65, sX11_part_66, sX11_part_69, sX11_part_70, kI_i, kL_l, kV_v, am_rv_s, am_kl_i, am_kl_r, am_kl_n, am_kl_l, true_and, and_true, and_self, true_or, or_true, implies_true, forall_const, not_true_eq_false, not_false_eq_true, false_implies, true_implies, if_true, if_false, Bool.true_eq_false, Bool.false_eq_true, ob_457, e', i01]
def fo (is w : Int32) : Int32 := if is = 0 then (if w = 0 then 0 else 1) else 1
theorem fo_jn {is w : Int32} (h1 : is01 is = true) (h2 : is01 w = true) : fo is w = jn is 124 w := by
  unfold is01 at h1 h2
  simp only [Bool.or_eq_true, decide_eq_true_eq] at h1 h2
  rcases h1 with rfl | rfl <;> rcases h2 with rfl | rfl <;> decide
theorem lm_condition {dep : Int32} {A : Nat → PR} {k kA : Nat} {C0 : List Int32} (h : PB M b beg T len) (hA : gd len A) (hP : MB M L len K mX11_part [.int 0, .int 0] dep A kA []) (hk : kA + 1 ≤ k) : ∀ (j p : Nat) (c : List Int32) (is : Int32), p ≤ len → len - p < j → CV L (C0 ++ c) k is → is01 is = true → ∃ v' q f dp, (∀ d (Q : am_Q) l1 l2 l4, K ≤ d → 2 ≤ d → ok d mX11_condition 488 Q 488 0 0 7 [some (.ref 457), some (.int l1), some (.int l2), some (.int is), l4] [] (md M p (-1) dep) = Q (some (.int v')) (md M q f dp)) ∧ ((opL T len isOr A j p c).1 = true → q = (opL T len isOr A j p c).2.1 ∧ f = -1 ∧ dp = dep ∧ CV L (C0 ++ (opL T len isOr A j p c).2.2) k v') ∧ ((opL T len isOr A j p c).1 = false → f = nI (opL T len isOr A j p c).2.1) ∧ is01 v' = true := by
  have hlen := h.2.2.2.2.1
  intro j
  induction j with
  | zero => intro p c v _ hj; omega
  | succ j ih =>
    intro p c is hp hj hcv his
    have hs := skp_le' (T := T) hp
    have hg := skp_ge (T := T) (len := len) (p := p)
    have his' : (is = 0 ∨ is = 1) = True := eq_true (by unfold is01 at his; simpa using his)
    unfold opL
    by_cases c1 : sg T len (skp T len p) = 124
    · have c1' : isOr (sg T len (skp T len p)) = true := by rw [c1]; decide
      have hlt := sg_lt c1 (by decide)
      have hq := hA (skp T len p + 1) (by omega)
      obtain ⟨w, q, f, dp, e, r1, r2, r4⟩ := hP (skp T len p + 1) (by omega) (by omega)
      have e' : ∀ D (Q : am_Q), K ≤ D → am_big D mX11_part [.ref 457, .int 0, .int 0] 488 (md M (skp T len p + 1) (-1) dep) Q = Q (some (.int w)) (md M q f dp) := e
      rw [if_pos c1']
      generalize hr : A (skp T len p + 1) = r at r1 r2 hq
      obtain ⟨ok1, q1, cc⟩ := r
      simp only at r1 r2 hq
      have hz := fo_jn his r4
      have hz1 : is01 (fo is w) = true := by rw [hz]; exact log_is01 (by decide) his r4
      have st : ∀ d (Q : am_Q) l1 l2 l4, K ≤ d → 2 ≤ d → ok d mX11_condition 488 Q 488 0 0 7 [some (.ref 457), some (.int l1), some (.int l2), some (.int is), l4] [] (md M p (-1) dep) = ok d mX11_condition 488 Q 488 0 0 7 [some (.ref 457), some (.int l1), some (.int l2), some (.int (fo is w)), some (.int w)] [] (md M q f dp) := fun d Q l1 l2 l4 hd hd2 => by
        obtain ⟨d', rfl⟩ : ∃ d', d = d' + 2 := ⟨d - 2, by omega⟩
        rw [sX11_condition_7]
        unfold fo
        by_cases z1 : is = 0
        · by_cases z2 : w = 0
          · simp (disch := (first | assumption | omega | decide)) only [sX11_condition_0, sX11_condition_1, sX11_condition_2, sX11_condition_3, sX11_condition_6, sX11_condition_8, sX11_condition_11, sX11_condition_12, sX11_condition_15, sX11_condition_16, sX11_condition_19, sX11_condition_21, sX11_condition_24, sX11_condition_25, sX11_condition_26, sX11_condition_29, sX11_condition_30, sX11_condition_31, sX11_condition_34, sX11_condition_35, sX11_condition_36, sX11_condition_37, sX11_condition_40, sX11_condition_42, sX11_condition_43, sX11_condition_46, sX11_condition_48, sX11_condition_51, sX11_condition_52, sX11_condition_55, sX11_condition_56, sX11_condition_57, sX11_condition_60, sX11_condition_61, kI_i, kL_l, kV_v, am_rv_s, am_kl_i, am_kl_r, am_kl_n, am_kl_l, true_and, and_true, and_self, true_or, or_true, implies_true, forall_const, not_true_eq_false, not_false_eq_true, false_implies, true_implies, if_true, if_false, Bool.true_eq_false, Bool.false_eq_true, ob_457, gI_md1, md_look h, c1, gI_md0, nI_1, md_at, e', z1, z2]
          · simp (disch := (first | assumption | omega | decide)) only [sX11_condition_0, sX11_condition_1, sX11_condition_2, sX11_condition_3, sX11_condition_6, sX11_condition_8, sX11_condition_11, sX11_condition_12, sX11_condition_15, sX11_condition_16, sX11_condition_19, sX11_condition_21, sX11_condition_24, sX11_condition_25, sX11_condition_26, sX11_condition_29, sX11_condition_30, sX11_condition_31, sX11_condition_34, sX11_condition_35, sX11_condition_36, sX11_condition_37, sX11_condition_40, sX11_condition_42, sX11_condition_43, sX11_condition_46, sX11_condition_48, sX11_condition_51, sX11_condition_52, sX11_condition_55, sX11_condition_56, sX11_condition_57, sX11_condition_60, sX11_condition_61, kI_i, kL_l, kV_v, am_rv_s, am_kl_i, am_kl_r, am_kl_n, am_kl_l, true_and, and_true, and_self, true_or, or_true, implies_true, forall_const, not_true_eq_false, not_false_eq_true, false_implies, true_implies, if_true, if_false, Bool.true_eq_false, Bool.false_eq_true, ob_457, gI_md1, md_look h, c1, gI_md0, nI_1, md_at, e', z1, z2]
        · by_cases z2 : w = 0
          · simp (disch := (first | assumption | omega | decide)) only [sX11_condition_0, sX11_condition_1, sX11_condition_2, sX11_condition_3, sX11_condition_6, sX11_condition_8, sX11_condition_11, sX11_condition_12, sX11_condition_15, sX11_condition_16, sX11_condition_19, sX11_condition_21, sX11_condition_24, sX11_condition_25, sX11_condition_26, sX11_condition_29, sX11_condition_30, sX11_condition_31, sX11_condition_34, sX11_condition_35, sX11_condition_36, sX11_condition_37, sX11_condition_40, sX11_condition_42, sX11_condition_43, sX11_condition_46, sX11_condition_48, sX11_condition_51, sX11_condition_52, sX11_condition_55, sX11_condition_56, sX11_condition_57, sX11_condition_60, sX11_condition_61, kI_i, kL_l, kV_v, am_rv_s, am_kl_i, am_kl_r, am_kl_n, am_kl_l, true_and, and_true, and_self, true_or, or_true, implies_true, forall_const, not_true_eq_false, not_false_eq_true, false_implies, true_implies, if_true, if_false, Bool.true_eq_false, Bool.false_eq_true, ob_457, gI_md1, md_look h, c1, gI_md0, nI_1, md_at, e', z1, z2]
          · simp (disch := (first | assumption | omega | decide)) only [sX11_condition_0, sX11_condition_1, sX11_condition_2, sX11_condition_3, sX11_condition_6, sX11_condition_8, sX11_condition_11, sX11_condition_12, sX11_condition_15, sX11_condition_16, sX11_condition_19, sX11_condition_21, sX11_condition_24, sX11_condition_25, sX11_condition_26, sX11_condition_29, sX11_condition_30, sX11_condition_31, sX11_condition_34, sX11_condition_35, sX11_condition_36, sX11_condition_37, sX11_condition_40, sX11_condition_42, sX11_condition_43, sX11_condition_46, sX11_condition_48, sX11_condition_51, sX11_condition_52, sX11_condition_55, sX11_condition_56, sX11_condition_57, sX11_condition_60, sX11_condition_61, kI_i, kL_l, kV_v, am_rv_s, am_kl_i, am_kl_r, am_kl_n, am_kl_l, true_and, and_true, and_self, true_or, or_true, implies_true, forall_const, not_true_eq_false, not_false_eq_true, false_implies, true_implies, if_true, if_false, Bool.true_eq_false, Bool.false_eq_true, ob_457, gI_md1, md_look h, c1, gI_md0, nI_1, md_at, e', z1, z2]
      cases ok1 with
      | false =>
        have r2 := r2 rfl
        subst r2
        refine ⟨fo is w, q, nI q1, dp, fun d Q l1 l2 l4 hd hd2 => ?_, fun z => (by cases z), fun _ => rfl, hz1⟩
        have hz2 : (fo is w = 0 ∨ fo is w = 1) = True := eq_true (by unfold is01 at hz1; simpa using hz1)
        rw [st d Q l1 l2 l4 hd hd2, sX11_condition_7]
        simp (disch := (first | assumption | omega | decide)) only [sX11_condition_0, sX11_condition_1, sX11_condition_2, sX11_condition_3, sX11_condition_6, sX11_condition_8, sX11_condition_11, sX11_condition_12, sX11_condition_15, sX11_condition_16, sX11_condition_19, sX11_condition_21, sX11_condition_24, sX11_condition_25, sX11_condition_26, sX11_condition_29, sX11_condition_30, sX11_condition_31, sX11_condition_34, sX11_condition_35, sX11_condition_36, sX11_condition_37, sX11_condition_40, sX11_condition_42, sX11_condition_43, sX11_condition_46, sX11_condition_48, sX11_condition_51, sX11_condition_52, sX11_condition_55, sX11_condition_56, sX11_condition_57, sX11_condition_60, sX11_condition_61, kI_i, kL_l, kV_v, am_rv_s, am_kl_i, am_kl_r, am_kl_n, am_kl_l, true_and, and_true, and_self, true_or, or_true, implies_true, forall_const, not_true_eq_false, not_false_eq_true, false_implies, true_implies, if_true, if_false, Bool.true_eq_false, Bool.false_eq_true, ob_457, gI_md1, nI_m1, hz2]
      | true =>
        obtain ⟨rfl, rfl, rfl, r3⟩ := r1 rfl
        have hcv2 := CV_log (s := 124) hcv r3 (Nat.le_refl _) hk (by decide) his r4
        rw [List.append_assoc C0, List.append_assoc C0] at hcv2
        obtain ⟨v', q', f', dp', e2, s1, s2⟩ := ih q (c ++ cc ++ [20000 + sg T len (skp T len p)]) (jn is 124 w) hq.2 (by omega) (by rw [c1]; exact hcv2) (by rw [← hz]; exact hz1)
        refine ⟨v', q', f', dp', fun d Q l1 l2 l4 hd hd2 => ?_, s1, s2⟩
        rw [st d Q l1 l2 l4 hd hd2, hz]
        exact e2 d Q _ _ _ hd hd2
    · have c1' : ¬ isOr (sg T len (skp T len p)) = true := by unfold isOr; simpa using c1
      rw [if_neg c1']
      refine ⟨is, skp T len p, -1, dep, fun d Q l1 l2 l4 hd hd2 => ?_, fun _ => ⟨rfl, rfl, rfl, hcv⟩, fun z => (by cases z), his⟩
      obtain ⟨d', rfl⟩ : ∃ d', d = d' + 2 := ⟨d - 2, by omega⟩
      rw [sX11_condition_7]
      simp (disch := (first | assumption | omega | decide)) only [sX11_condition_0, sX11_condition_1, sX11_condition_2, sX11_condition_3, sX11_condition_6, sX11_condition_8, sX11_condition_11, sX11_condition_12, sX11_condition_15, sX11_condition_16, sX11_condition_19, sX11_condition_21, sX11_condition_24, sX11_condition_25, sX11_condition_26, sX11_condition_29, sX11_condition_30, sX11_condition_31, sX11_condition_34, sX11_condition_35, sX11_condition_36, sX11_condition_37, sX11_condition_40, sX11_condition_42, sX11_condition_43, sX11_condition_46, sX11_condition_48, sX11_condition_51, sX11_condition_52, sX11_condition_55, sX11_condition_56, sX11_condition_57, sX11_condition_60, sX11_condition_61, kI_i, kL_l, kV_v, am_rv_s, am_kl_i, am_kl_r, am_kl_n, am_kl_l, true_and, and_true, and_self, true_or, or_true, implies_true, forall_const, not_true_eq_false, not_false_eq_true, false_implies, true_implies, if_true, if_false, Bool.true_eq_false, Bool.false_eq_true, ob_457, gI_md1, md_look h, c1, his']
theorem MB_condition0 {dep : Int32} {A0 A : Nat → PR} {k kA k0 : Nat} {C0 : List Int32} (h : PB M b beg T len) (hA0 : gd len A0) (hA : gd len A) (hP0 : MB M L len K mX11_part [.int 0, .int 0] dep A0 k0 C0) (hP : MB M L len K mX11_part [.int 0, .int 0] dep A kA []) (hk : kA + 1 ≤ k) (hk0 : k0 ≤ k) (hK : 2 ≤ K) : MB M L len (K + 1) mX11_condition [.int 0, .int 0] dep (seqQ T len A0 isOr A) k C0 := by
  intro p hp0 hp
  have hlen := h.2.2.2.2.1
  obtain ⟨w, q, f, dp, e, r1, r2, r4⟩ := hP0 p hp0 hp
  have hq := hA0 p hp
  have e' : ∀ D (Q : am_Q), K ≤ D → am_big D mX11_part [.ref 457, .int 0, .int 0] 488 (md M p (-1) dep) Q = Q (some (.int w)) (md M q f dp) := e
  have r4' : (w = 0 ∨ w = 1) = True := eq_true (by unfold is01 at r4; simpa using r4)
  unfold seqQ
  generalize hr : A0 p = r at r1 r2 hq
  obtain ⟨ok1, q1, cc⟩ := r
  simp only at r1 r2 hq
  cases ok1 with
  | false =>
    have r2 := r2 rfl
    subst r2
    refine ⟨w, q, nI q1, dp, fun D Q hD => ?_, fun z => (by cases z), fun _ => rfl, r4⟩
    obtain ⟨d, rfl⟩ : ∃ d, D = d + 1 := ⟨D - 1, by omega⟩
    show am_big (d + 1) mX11_condition [.ref 457, .int 0, .int 0] 488 _ Q = _
    rw [eX11_condition]
    simp (disch := (first | assumption | omega | decide)) only [sX11_condition_0, sX11_condition_1, sX11_condition_2, sX11_condition_3, sX11_condition_6, sX11_condition_8, sX11_condition_11, sX11_condition_12, sX11_condition_15, sX11_condition_16, sX11_condition_19, sX11_condition_21, sX11_condition_24, sX11_condition_25, sX11_condition_26, sX11_condition_29, sX11_condition_30, sX11_condition_31, sX11_condition_34, sX11_condition_35, sX11_condition_36, sX11_condition_37, sX11_condition_40, sX11_condition_42, sX11_condition_43, sX11_condition_46, sX11_condition_48, sX11_condition_51, sX11_condition_52, sX11_condition_55, sX11_condition_56, sX11_condition_57, sX11_condition_60, sX11_condition_61, kI_i, kL_l, kV_v, am_rv_s, am_kl_i, am_kl_r, am_kl_n, am_kl_l, true_and, and_true, and_self, true_or, or_true, implies_true, forall_const, not_true_eq_false, not_false_eq_true, false_implies, true_implies, if_true, if_false, Bool.true_eq_false, Bool.false_eq_true, ob_457, e', i01]
    rw [sX11_condition_7]
    simp (disch := (first | assumption | omega | decide)) only [sX11_condition_0, sX11_condition_1, sX11_condition_2, sX11_condition_3, sX11_condition_6, sX11_condition_8, sX11_condition_11, sX11_condition_12, sX11_condition_15, sX11_condition_16, sX11_condition_19, sX11_condition_21, sX11_condition_24, sX11_condition_25, sX11_condition_26, sX11_condition_29, sX11_condition_30, sX11_condition_31, sX11_condition_34, sX11_condition_35, sX11_condition_36, sX11_condition_37, sX11_condition_40, sX11_condition_42, sX11_condition_43, sX11_condition_46, sX11_condition_48, sX11_condition_51, sX11_condition_52, sX11_condition_55, sX11_condition_56, sX11_condition_57, sX11_condition_60, sX11_condition_61, kI_i, kL_l, kV_v, am_rv_s, am_kl_i, am_kl_r, am_kl_n, am_kl_l, true_and, and_true, and_self, true_or, or_true, implies_true, forall_const, not_true_eq_false, not_false_eq_true, false_implies, true_implies, if_true, if_false, Bool.true_eq_false, Bool.false_eq_true, ob_457, gI_md1, nI_m1, r4']
  | true =>
    obtain ⟨rfl, rfl, rfl, r3⟩ := r1 rfl
    obtain ⟨v', q', f', dp', e2, s1, s2⟩ := lm_condition (C0 := C0) h hA hP hk 240 q cc w hq.2 (by omega) (CV_mono r3 hk0) r4
    refine ⟨v', q', f', dp', fun D Q hD => ?_, s1, s2⟩
    obtain ⟨d, rfl⟩ : ∃ d, D = d + 1 := ⟨D - 1, by omega⟩
    show am_big (d + 1) mX11_condition [.ref 457, .int 0, .int 0] 488 _ Q = _
    rw [eX11_condition, ← e2 d Q 0 0 none (by omega) (by omega)]
    simp (disch := (first | assumption | omega | decide)) only [sX11_condition_0, sX11_condition_1, sX11_condition_2, sX11_condition_3, sX11_condition_6, sX11_condition_8, sX11_condition_11, sX11_condition_12, sX11_condition_15, sX11_condition_16, sX11_condition_19, sX11_condition_21, sX11_condition_24, sX11_condition_25, sX11_condition_26, sX11_condition_29, sX11_condition_30, sX11_condition_31, sX11_condition_34, sX11_condition_35, sX11_condition_36, sX11_condition_37, sX11_condition_40, sX11_condition_42, sX11_condition_43, sX11_condition_46, sX11_condition_48, sX11_condition_51, sX11_condition_52, sX11_condition_55, sX11_condition_56, sX11_condition_57, sX11_condition_60, sX11_condition_61, kI_i, kL_l, kV_v, am_rv_s, am_kl_i, am_kl_r, am_kl_n, am_kl_l, true_and, and_true, and_self, true_or, or_true, implies_true, forall_const, not_true_eq_false, not_false_eq_true, false_implies, true_implies, if_true, if_false, Bool.true_eq_false, Bool.false_eq_true, ob_457, e', i01]
theorem MB_condition1 {dep : Int32} {one : Int32} {A0 A : Nat → PR} {k kA k0 : Nat} {C0 : List Int32} (h : PB M b beg T len) (hA0 : gd len A0) (hA : gd len A) (hP0 : MB M L len K mX11_part [.int 1, .int one] dep A0 k0 C0) (hP : MB M L len K mX11_part [.int 0, .int 0] dep A kA []) (hk : kA + 1 ≤ k) (hk0 : k0 ≤ k) (hK : 2 ≤ K) : MB M L len (K + 1) mX11_condition [.int 1, .int one] dep (seqQ T len A0 isOr A) k C0 := by
  intro p hp0 hp
  have hlen := h.2.2.2.2.1
  obtain ⟨w, q, f, dp, e, r1, r2, r4⟩ := hP0 p hp0 hp
  have hq := hA0 p hp
  have e' : ∀ D (Q : am_Q), K ≤ D → am_big D mX11_part [.ref 457, .int 1, .int one] 488 (md M p (-1) dep) Q = Q (some (.int w)) (md M q f dp) := e
  have r4' : (w = 0 ∨ w = 1) = True := eq_true (by unfold is01 at r4; simpa using r4)
  unfold seqQ
  generalize hr : A0 p = r at r1 r2 hq
  obtain ⟨ok1, q1, cc⟩ := r
  simp only at r1 r2 hq
  cases ok1 with
  | false =>
    have r2 := r2 rfl
    subst r2
    refine ⟨w, q, nI q1, dp, fun D Q hD => ?_, fun z => (by cases z), fun _ => rfl, r4⟩
    obtain ⟨d, rfl⟩ : ∃ d, D = d + 1 := ⟨D - 1, by omega⟩
    show am_big (d + 1) mX11_condition [.ref 457, .int 1, .int one] 488 _ Q = _
    rw [eX11_condition]
    simp (disch := (first | assumption | omega | decide)) only [sX11_condition_0, sX11_condition_1, sX11_condition_2, sX11_condition_3, sX11_condition_6, sX11_condition_8, sX11_condition_11, sX11_condition_12, sX11_condition_15, sX11_condition_16, sX11_condition_19, sX11_condition_21, sX11_condition_24, sX11_condition_25, sX11_condition_26, sX11_condition_29, sX11_condition_30, sX11_condition_31, sX11_condition_34, sX11_condition_35, sX11_condition_36, sX11_condition_37, sX11_condition_40, sX11_condition_42, sX11_condition_43, sX11_condition_46, sX11_condition_48, sX11_condition_51, sX11_condition_52, sX11_condition_55, sX11_condition_56, sX11_condition_57, sX11_condition_60, sX11_condition_61, kI_i, kL_l, kV_v, am_rv_s, am_kl_i, am_kl_r, am_kl_n, am_kl_l, true_and, and_true, and_self, true_or, or_true, implies_true, forall_const, not_true_eq_false, not_false_eq_true, false_implies, true_implies, if_true, if_false, Bool.true_eq_false, Bool.false_eq_true, ob_457, e', i01]
    rw [sX11_condition_7]
    simp (disch := (first | assumption | omega | decide)) only [sX11_condition_0, sX11_condition_1, sX11_condition_2, sX11_condition_3, sX11_condition_6, sX11_condition_8, sX11_condition_11, sX11_condition_12, sX11_condition_15, sX11_condition_16, sX11_condition_19, sX11_condition_21, sX11_condition_24, sX11_condition_25, sX11_condition_26, sX11_condition_29, sX11_condition_30, sX11_condition_31, sX11_condition_34, sX11_condition_35, sX11_condition_36, sX11_condition_37, sX11_condition_40, sX11_condition_42, sX11_condition_43, sX11_condition_46, sX11_condition_48, sX11_condition_51, sX11_condition_52, sX11_condition_55, sX11_condition_56, sX11_condition_57, sX11_condition_60, sX11_condition_61, kI_i, kL_l, kV_v, am_rv_s, am_kl_i, am_kl_r, am_kl_n, am_kl_l, true_and, and_true, and_self, true_or, or_true, implies_true, forall_const, not_true_eq_false, not_false_eq_true, false_implies, true_implies, if_true, if_false, Bool.true_eq_false, Bool.false_eq_true, ob_457, gI_md1, nI_m1, r4']
  | true =>
    obtain ⟨rfl, rfl, rfl, r3⟩ := r1 rfl
    obtain ⟨v', q', f', dp', e2, s1, s2⟩ := lm_condition (C0 := C0) h hA hP hk 240 q cc w hq.2 (by omega) (CV_mono r3 hk0) r4
    refine ⟨v', q', f', dp', fun D Q hD => ?_, s1, s2⟩
    obtain ⟨d, rfl⟩ : ∃ d, D = d + 1 := ⟨D - 1, by omega⟩
    show am_big (d + 1) mX11_condition [.ref 457, .int 1, .int one] 488 _ Q = _
    rw [eX11_condition, ← e2 d Q 1 one none (by omega) (by omega)]
    simp (disch := (first | assumption | omega | decide)) only [sX11_condition_0, sX11_condition_1, sX11_condition_2, sX11_condition_3, sX11_condition_6, sX11_condition_8, sX11_condition_11, sX11_condition_12, sX11_condition_15, sX11_condition_16, sX11_condition_19, sX11_condition_21, sX11_condition_24, sX11_condition_25, sX11_condition_26, sX11_condition_29, sX11_condition_30, sX11_condition_31, sX11_condition_34, sX11_condition_35, sX11_condition_36, sX11_condition_37, sX11_condition_40, sX11_condition_42, sX11_condition_43, sX11_condition_46, sX11_condition_48, sX11_condition_51, sX11_condition_52, sX11_condition_55, sX11_condition_56, sX11_condition_57, sX11_condition_60, sX11_condition_61, kI_i, kL_l, kV_v, am_rv_s, am_kl_i, am_kl_r, am_kl_n, am_kl_l, true_and, and_true, and_self, true_or, or_true, implies_true, forall_const, not_true_eq_false, not_false_eq_true, false_implies, true_implies, if_true, if_false, Bool.true_eq_false, Bool.false_eq_true, ob_457, e', i01]
theorem MB_unitL (hW : WR M) (h : PB M b beg T len) (hL : LMt M L) : ∀ l, l ≤ 6 → MB M L len (8 + 3 * l) mX11_unit [] (dpt l) (unitL T len l) (4 + 2 * l) []
  | 0, _ => MK_unit (K := 7) (k := 4) (ku := 0) (kc := 0) h (by omega) (fun u h => by cases h) (fun _ => rfl) (MK_cmp0 (K := 6) (k := 3) h (gd_sum 0) (MK_sumL hW h hL 0 (by omega)) (by omega)) (by omega) (by omega) (by omega)
  | l + 1, hl => by
    have hu := MB_unitL hW h hL l (by omega)
    have hc := MK_cmp0 h (gd_sum (l + 1)) (MK_sumL hW h hL (l + 1) hl) (by omega)
    have hp := MB_part0 (k := 5 + 2 * l) h (gd_unitL (T := T) l) (gd_unitL (T := T) l) hu hu (by omega) (by omega) (by omega)
    have hcn := MB_condition0 (k := 6 + 2 * l) h (gd_seq (T := T) (io := isAn) (by decide) (gd_unitL l) (gd_unitL l)) (gd_seq (T := T) (io := isAn) (by decide) (gd_unitL l) (gd_unitL l)) hp hp (by omega) (by omega) (by omega)
    have e : 3 + 2 * (l + 1) + 1 = 4 + 2 * (l + 1) := by omega
    rw [e] at hc
    exact MB_mono (MK_unit (K := 10 + 3 * l) (k := 4 + 2 * (l + 1)) (ku := 4 + 2 * l) (kc := 6 + 2 * l) h hl (fun u h' => by
      cases h'
      exact ⟨by omega, gd_unitL l, gd_con (gd_unitL l), MB_mono hu (by omega), MB_mono hcn (by omega)⟩) (fun z => by cases z) (MB_mono hc (by omega)) (by omega) (by omega) (by omega)) (by omega)
theorem MB_con6 (hW : WR M) (h : PB M b beg T len) (hL : LMt M L) : MB M L len 28 mX11_condition [.int 0, .int 0] (dpt 6) (conF T len (unitL T len 6)) 18 [] := by
  have hu := MB_unitL hW h hL 6 (by omega)
  have hp := MB_part0 (k := 17) h (gd_unitL (T := T) 6) (gd_unitL (T := T) 6) hu hu (by omega) (by omega) (by omega)
  exact MB_mono (MB_condition0 (k := 18) h (gd_seq (T := T) (io := isAn) (by decide) (gd_unitL 6) (gd_unitL 6)) (gd_seq (T := T) (io := isAn) (by decide) (gd_unitL 6) (gd_unitL 6)) hp hp (by omega) (by omega) (by omega)) (by omega)
theorem MB_conS {one : Int32} {C0 : List Int32} (hW : WR M) (h : PB M b beg T len) (hL : LMt M L) (hC : CV L C0 15 one) (hb : Bd one) : MB M L len 28 mX11_condition [.int 1, .int one] (dpt 6) (conS T len) 18 C0 := by
  have hu := MB_unitL hW h hL 6 (by omega)
  have hc := MK_cmp1 (one := one) (C0 := C0) h (gd_sum 6) (MK_sumL hW h hL 6 (by omega)) (CV_mono hC (by omega)) hb (by omega)
  have hp := MB_part0 (k := 17) h (gd_unitL (T := T) 6) (gd_unitL (T := T) 6) hu hu (by omega) (by omega) (by omega)
  have hp1 := MB_part1 (K := 26) (k := 17) (one := one) h (gd_cmp (T := T) (gd_sum 6)) (gd_unitL (T := T) 6) (MB_mono hc (by omega)) (MB_mono hu (by omega)) (by omega) (by omega) (by omega)
  exact MB_mono (MB_condition1 (K := 27) (k := 18) h (gd_seq (T := T) (io := isAn) (by decide) (gd_cmp (gd_sum 6)) (gd_unitL 6)) (gd_seq (T := T) (io := isAn) (by decide) (gd_unitL 6) (gd_unitL 6)) hp1 (MB_mono hp (by omega)) (by omega) (by omega) (by omega)) (by omega)
end
