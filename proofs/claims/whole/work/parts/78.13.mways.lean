/-- a stretch of a row filled -/
def fr (M : am_M) (a lo hi : Nat) (f : Nat → Int32) : am_M := (fun b k => if b = a ∧ lo ≤ k ∧ k < hi then f k else M.1 b k, M.2)
section
variable {M : am_M} {a b lo hi k : Nat} {f g : Nat → Int32} {v : Int32}
theorem gI_fr' : gI (fr M a lo hi f) b k = if b = a ∧ lo ≤ k ∧ k < hi then f k else gI M b k := rfl
theorem gI_fr (h1 : lo ≤ k) (h2 : k < hi) : gI (fr M a lo hi f) a k = f k := by rw [gI_fr', if_pos ⟨rfl, h1, h2⟩]
theorem gI_fro (h : b ≠ a) : gI (fr M a lo hi f) b k = gI M b k := by rw [gI_fr', if_neg (fun z => h z.1)]
theorem gR_fr : gR (fr M a lo hi f) b k = gR M b k := rfl
theorem fr_s (h : f lo = v) (hh : lo < hi) : sI (fr M a (lo + 1) hi f) a lo v = fr M a lo hi f := M_ext (fun b k => by
  rw [gI_sI, gI_fr', gI_fr']
  by_cases z : b = a ∧ k = lo
  · rw [if_pos z, if_pos (by omega), z.2, h]
  · rw [if_neg z]
    by_cases z2 : b = a ∧ lo + 1 ≤ k ∧ k < hi
    · rw [if_pos z2, if_pos (by omega)]
    · rw [if_neg z2, if_neg (by omega)]) (fun _ _ => rfl) (fun _ _ => rfl)
theorem fr_u (h1 : lo ≤ k) (h2 : k < hi) (h : ∀ i, lo ≤ i → i < hi → (if i = k then v else f i) = g i) : sI (fr M a lo hi f) a k v = fr M a lo hi g := M_ext (fun b i => by
  rw [gI_sI, gI_fr', gI_fr']
  by_cases z : b = a ∧ i = k
  · rw [if_pos z, if_pos (by omega), ← h i (by omega) (by omega), if_pos z.2]
  · rw [if_neg z]
    by_cases z2 : b = a ∧ lo ≤ i ∧ i < hi
    · rw [if_pos z2, if_pos z2, ← h i z2.2.1 z2.2.2, if_neg (fun w => z ⟨z2.1, w⟩)]
    · rw [if_neg z2, if_neg z2]) (fun _ _ => rfl) (fun _ _ => rfl)
theorem fr_c (h : ∀ i, lo ≤ i → i < hi → f i = g i) : fr M a lo hi f = fr M a lo hi g := M_ext (fun b i => by
  rw [gI_fr', gI_fr']
  by_cases z2 : b = a ∧ lo ≤ i ∧ i < hi
  · rw [if_pos z2, if_pos z2, h i z2.2.1 z2.2.2]
  · rw [if_neg z2, if_neg z2]) (fun _ _ => rfl) (fun _ _ => rfl)
theorem Fw_fr {X : Nat → Nat → Prop} (h : ∀ k, X a k) : Fw X M (fr M a lo hi f) := ⟨fun b k hb => ⟨by rw [gI_fr', if_neg (fun (q : b = a ∧ _) => hb (by rw [q.1]; exact h k))], rfl, rfl⟩, fun h => h⟩
end
theorem sm_0 {h : Nat → Nat} : ∀ {n : Nat}, sm h n = 0 → ∀ k, k < n → h k = 0
  | 0, _, k, hk => absurd hk (Nat.not_lt_zero k)
  | n + 1, e, k, hk => by
    unfold sm at e
    by_cases z : k = n
    · rw [z]; omega
    · exact sm_0 (n := n) (by omega) k (by omega)
theorem cnt_0 {n s : Nat} (h : cnt n s = 0) (hs : s < 2 ^ n) : s = 2 ^ n - 1 := by
  apply Nat.eq_of_testBit_eq
  intro i
  rw [Nat.testBit_two_pow_sub_one]
  by_cases z : i < n
  · rw [decide_eq_true z]
    have := sm_0 h i z
    cases c : s.testBit i
    · rw [c] at this; simp at this
    · rfl
  · rw [decide_eq_false z]
    exact Nat.testBit_lt_two_pow (Nat.lt_of_lt_of_le hs (Nat.pow_le_pow_right (by omega) (by omega)))
theorem cnt_full (n : Nat) : cnt n (2 ^ n - 1) = 0 := by
  unfold cnt
  have : ∀ m, m ≤ n → sm (fun t => if (2 ^ n - 1).testBit t = true then 0 else 1) m = 0 := by
    intro m
    induction m with
    | zero => intro _; rfl
    | succ m ih =>
      intro h
      unfold sm
      rw [ih (by omega), Nat.testBit_two_pow_sub_one, decide_eq_true (by omega : m < n)]
      rfl
  exact this n (Nat.le_refl _)
/-- the rows that go on from a set -/
def wS (g : Nat → Nat) (n s : Nat) : Nat := wy g n (cnt n s) s
theorem wS_full (g : Nat → Nat) (n : Nat) : wS g n (2 ^ n - 1) = 1 := by unfold wS; rw [cnt_full]; rfl
theorem wS_s {g : Nat → Nat} {n s : Nat} (hs : s < 2 ^ n - 1) : wS g n s = sm (fun t => if cf g s t = true then wS g n (s ||| 2 ^ t) else 0) n := by
  unfold wS
  have h : cnt n s ≠ 0 := fun z => by have := cnt_0 z (by omega); omega
  obtain ⟨f, hf⟩ : ∃ f, cnt n s = f + 1 := ⟨cnt n s - 1, by omega⟩
  rw [hf]
  show sm _ _ = _
  refine sm_congr (fun t ht => ?_)
  by_cases c : cf g s t = true
  · have := cnt_or ht (cf_f c).1
    rw [if_pos c, if_pos c, show cnt n (s ||| 2 ^ t) = f by omega]
  · rw [if_neg c, if_neg c]
theorem cnt_le (s : Nat) : ∀ n, cnt n s ≤ n
  | 0 => Nat.le_refl _
  | n + 1 => by
    have a : cnt n s ≤ n := cnt_le s n
    unfold cnt at a ⊢
    unfold sm
    split <;> omega
theorem wS_le {g : Nat → Nat} {n s : Nat} (hn : n ≤ 12) : wS g n s ≤ 479001600 := Nat.le_trans (wy_le _ s rfl) (fac_12 _ (Nat.le_trans (cnt_le s n) hn))
theorem or_gt {s t n : Nat} (hs : s < 2 ^ n) (ht : t < n) (h : s.testBit t = false) : s < s ||| 2 ^ t ∧ s ||| 2 ^ t < 2 ^ n := by
  have a : s ≤ s ||| 2 ^ t := Nat.left_le_or
  have b : s ≠ s ||| 2 ^ t := fun z => by
    have : (s ||| 2 ^ t).testBit t = true := by rw [or_bit, decide_eq_true rfl, Bool.or_true]
    rw [← z, h] at this; cases this
  exact ⟨by omega, Nat.or_lt_two_pow hs (Nat.pow_lt_pow_right (by omega) ht)⟩
section
variable {M N : am_M} {ap lim n : Nat} {S : Sg} {P : List Sg} {l : List Dd} {d : Nat} {Q : am_Q} {K : Int32}
theorem drt_lt {t : Nat} : ∀ n, drt l t n < 2 ^ n
  | 0 => by simp [drt]
  | n + 1 => by
    unfold drt
    have a : drt l t n < 2 ^ n := drt_lt n
    have p : (2 : Nat) ^ n < 2 ^ (n + 1) := Nat.pow_lt_pow_right (by omega) (by omega)
    refine Nat.or_lt_two_pow (by omega) ?_
    split <;> omega
theorem m_canLay {s t : Nat} (hW : WR N) (hg : gI N 473 t = nI (drD l t)) (ht : t < 12) (hs : s < 4096) : am_big (d + 2) mX11_canLay [.ref 457, .int (nI s), .int (nI t)] 488 N Q = Q (some (.int (bz (cf (drD l) s t)))) N := by
  have bt := nI_bit (b := s) (e := t) (by omega) (by omega)
  have tc : (nI t).toNatClampNeg = t := nI_clamp (by omega)
  have dl : drD l t < 2 ^ 31 := Nat.lt_of_lt_of_le (drt_lt t) (Nat.pow_le_pow_right (by omega) (by omega))
  have z0 := nI_sub0 (s := s) dl
  rw [eX11_canLay]
  unfold cf
  cases c : s.testBit t with
  | true =>
    have z1 : ((1 : Int32) = 1) = True := eq_true rfl
    rw [c] at bt
    simp (disch := (first | assumption | omega | decide)) only [sX11_canLay_0, sX11_canLay_1, sX11_canLay_2, sX11_canLay_5, sX11_canLay_8, sX11_canLay_9, sX11_canLay_12, sX11_canLay_13, sX11_canLay_14, sX11_canLay_15, sX11_canLay_16, sX11_canLay_17, sX11_canLay_18, sX11_canLay_21, sX11_canLay_22, sX11_canLay_25, sX11_canLay_26, kI_i, kL_l, kV_v, am_rv_s, am_kl_i, am_kl_r, am_kl_n, am_kl_l, true_and, and_true, and_self, true_or, or_true, implies_true, forall_const, not_true_eq_false, not_false_eq_true, false_implies, true_implies, if_true, if_false, Bool.true_eq_false, Bool.false_eq_true, m_has, bt, bz_t, z1, decide_true, i01, Bool.not_true, Bool.false_and, bz_f]
  | false =>
    have z1 : ((0 : Int32) = 1) = False := eq_false (by decide)
    rw [c] at bt
    by_cases z : drD l t &&& s = drD l t
    · have z' := eq_true z
      simp (disch := (first | assumption | omega | decide)) only [sX11_canLay_0, sX11_canLay_1, sX11_canLay_2, sX11_canLay_5, sX11_canLay_8, sX11_canLay_9, sX11_canLay_12, sX11_canLay_13, sX11_canLay_14, sX11_canLay_15, sX11_canLay_16, sX11_canLay_17, sX11_canLay_18, sX11_canLay_21, sX11_canLay_22, sX11_canLay_25, sX11_canLay_26, kI_i, kL_l, kV_v, am_rv_s, am_kl_i, am_kl_r, am_kl_n, am_kl_l, true_and, and_true, and_self, true_or, or_true, implies_true, forall_const, not_true_eq_false, not_false_eq_true, false_implies, true_implies, if_true, if_false, Bool.true_eq_false, Bool.false_eq_true, ob_457, m_has, bt, bz_f, z1, decide_false, r_457_37, in_473 ht, tc, hg, z0, z', Bool.not_false, decide_true, Bool.and_self, bz_t]
    · simp (disch := (first | assumption | omega | decide)) only [sX11_canLay_0, sX11_canLay_1, sX11_canLay_2, sX11_canLay_5, sX11_canLay_8, sX11_canLay_9, sX11_canLay_12, sX11_canLay_13, sX11_canLay_14, sX11_canLay_15, sX11_canLay_16, sX11_canLay_17, sX11_canLay_18, sX11_canLay_21, sX11_canLay_22, sX11_canLay_25, sX11_canLay_26, kI_i, kL_l, kV_v, am_rv_s, am_kl_i, am_kl_r, am_kl_n, am_kl_l, true_and, and_true, and_self, true_or, or_true, implies_true, forall_const, not_true_eq_false, not_false_eq_true, false_implies, true_implies, if_true, if_false, Bool.true_eq_false, Bool.false_eq_true, ob_457, m_has, bt, bz_f, z1, decide_false, r_457_37, in_473 ht, tc, hg, z0, z, Bool.not_false, Bool.and_false]
/-- the reference's table of rows, on every set -/
def ww (M : am_M) (l : List Dd) : am_M := fr (nd3 M l) 481 0 (2 ^ l.length) (fun s => nI (wS (drD l) l.length s))
theorem m_laysWays (hW : WR M) (hp : PcM M 465 0 l) (hw : WFl l) : am_big (d + 3) mX11_laysWays [.ref 457] 488 M Q = Q (some (.int (nI (wS (drD l) l.length 0)))) (ww M l) := by
  have hl : l.length ≤ 12 := hp.1
  have ln := fun d (Q : am_Q) => m_laysNeeds (d := d) (Q := Q) hW hp hw
  have wn : WR (nd3 M l) := Fw_nd.2 hW
  have g36 : gI (nd3 M l) 465 36 = nI l.length := by rw [nd_o (by omega)]; have := hp.2.1; rwa [Nat.zero_add] at this
  have ga : ∀ k, k < l.length → gI (nd3 M l) 473 k = nI (drD l k) := fun k hk => nd_a hk
  unfold ww
  generalize nd3 M l = N at *
  have pl : (2 : Nat) ^ l.length ≤ 4096 := Nat.le_trans (Nat.pow_le_pow_right (by omega) hl) (by omega)
  have pp : 0 < (2 : Nat) ^ l.length := Nat.pow_pos (by omega)
  have inner : ∀ s, s < 2 ^ l.length - 1 → ok (d + 2) mX11_laysWays 488 Q 488 0 0 40 [some (.ref 457), some (.int (nI (2 ^ l.length - 1))), some (.int (nI s)), some (.int (nI 0))] [] (fr N 481 s (2 ^ l.length) (fun i => nI (if i = s then sm (fun t => if cf (drD l) s t = true then wS (drD l) l.length (s ||| 2 ^ t) else 0) 0 else wS (drD l) l.length i))) = ok (d + 2) mX11_laysWays 488 Q 488 0 0 40 [some (.ref 457), some (.int (nI (2 ^ l.length - 1))), some (.int (nI s)), some (.int (nI l.length))] [] (fr N 481 s (2 ^ l.length) (fun i => nI (if i = s then sm (fun t => if cf (drD l) s t = true then wS (drD l) l.length (s ||| 2 ^ t) else 0) l.length else wS (drD l) l.length i))) := fun s hs =>
    loop0 (P := fun k => ok (d + 2) mX11_laysWays 488 Q 488 0 0 40 [some (.ref 457), some (.int (nI (2 ^ l.length - 1))), some (.int (nI s)), some (.int (nI k))] [] (fr N 481 s (2 ^ l.length) (fun i => nI (if i = s then sm (fun t => if cf (drD l) s t = true then wS (drD l) l.length (s ||| 2 ^ t) else 0) k else wS (drD l) l.length i)))) (n := l.length) (fun k hk => by
      show ok (d + 2) mX11_laysWays 488 Q 488 0 0 40 _ [] _ = ok (d + 2) mX11_laysWays 488 Q 488 0 0 40 _ [] _
      have e0 : (nI l.length ≤ nI k) = False := by rw [nI_leE (by omega) (by omega)]; exact eq_false (by omega)
      have sc : (nI s).toNatClampNeg = s := nI_clamp (by omega)
      have hk1 : sm (fun t => if cf (drD l) s t = true then wS (drD l) l.length (s ||| 2 ^ t) else 0) (k + 1) = sm (fun t => if cf (drD l) s t = true then wS (drD l) l.length (s ||| 2 ^ t) else 0) k + (if cf (drD l) s k = true then wS (drD l) l.length (s ||| 2 ^ k) else 0) := rfl
      rw [hk1]
      generalize sm (fun t => if cf (drD l) s t = true then wS (drD l) l.length (s ||| 2 ^ t) else 0) k = q
      have g36' : gI (fr N 481 s (2 ^ l.length) (fun i => nI (if i = s then q else wS (drD l) l.length i))) 465 36 = nI l.length := by rw [gI_fro (by omega)]; exact g36
      have wf : WR (fr N 481 s (2 ^ l.length) (fun i => nI (if i = s then q else wS (drD l) l.length i))) := wn
      have cl := fun d (Q : am_Q) => m_canLay (d := d) (Q := Q) (l := l) (s := s) (t := k) wf (by rw [gI_fro (by omega)]; exact ga k hk) (by omega) (by omega)
      rw [sX11_laysWays_40]
      cases c : cf (drD l) s k with
      | false =>
        simp (disch := (first | assumption | omega | decide)) only [sX11_laysWays_0, sX11_laysWays_1, sX11_laysWays_4, sX11_laysWays_5, sX11_laysWays_6, sX11_laysWays_9, sX11_laysWays_11, sX11_laysWays_12, sX11_laysWays_13, sX11_laysWays_14, sX11_laysWays_15, sX11_laysWays_16, sX11_laysWays_17, sX11_laysWays_20, sX11_laysWays_21, sX11_laysWays_22, sX11_laysWays_23, sX11_laysWays_24, sX11_laysWays_25, sX11_laysWays_26, sX11_laysWays_28, sX11_laysWays_31, sX11_laysWays_32, sX11_laysWays_35, sX11_laysWays_36, sX11_laysWays_37, sX11_laysWays_38, sX11_laysWays_39, sX11_laysWays_41, sX11_laysWays_42, sX11_laysWays_45, sX11_laysWays_47, sX11_laysWays_48, sX11_laysWays_51, sX11_laysWays_52, sX11_laysWays_53, sX11_laysWays_54, sX11_laysWays_57, sX11_laysWays_60, sX11_laysWays_61, sX11_laysWays_64, sX11_laysWays_65, sX11_laysWays_66, sX11_laysWays_67, sX11_laysWays_68, sX11_laysWays_71, sX11_laysWays_72, sX11_laysWays_73, sX11_laysWays_74, sX11_laysWays_75, sX11_laysWays_76, sX11_laysWays_77, sX11_laysWays_78, sX11_laysWays_79, sX11_laysWays_82, sX11_laysWays_85, sX11_laysWays_88, sX11_laysWays_91, sX11_laysWays_92, sX11_laysWays_95, sX11_laysWays_96, sX11_laysWays_97, kI_i, kL_l, kV_v, am_rv_s, am_kl_i, am_kl_r, am_kl_n, am_kl_l, true_and, and_true, and_self, true_or, or_true, implies_true, forall_const, not_true_eq_false, not_false_eq_true, false_implies, true_implies, if_true, if_false, Bool.true_eq_false, Bool.false_eq_true, ob_457, gR_fr, r_457_27, n36, in_465, nI_clamp, g36', e0, cl, c, bz_f, nI_1, Bool.false_eq_true, Nat.add_zero]
      | true =>
        obtain ⟨o1, o2⟩ := or_gt (n := l.length) (by omega) hk (cf_f c).1
        have oc : (nI (s ||| 2 ^ k)).toNatClampNeg = s ||| 2 ^ k := nI_clamp (by omega)
        have g1 : gI (fr N 481 s (2 ^ l.length) (fun i => nI (if i = s then q else wS (drD l) l.length i))) 481 s = nI q := by rw [gI_fr (by omega) (by omega), if_pos rfl]
        have g2 : gI (fr N 481 s (2 ^ l.length) (fun i => nI (if i = s then q else wS (drD l) l.length i))) 481 (s ||| 2 ^ k) = nI (wS (drD l) l.length (s ||| 2 ^ k)) := by rw [gI_fr (by omega) (by omega), if_neg (by omega)]
        have sw : sI (fr N 481 s (2 ^ l.length) (fun i => nI (if i = s then q else wS (drD l) l.length i))) 481 s (nI (q + wS (drD l) l.length (s ||| 2 ^ k))) = fr N 481 s (2 ^ l.length) (fun i => nI (if i = s then q + wS (drD l) l.length (s ||| 2 ^ k) else wS (drD l) l.length i)) := fr_u (Nat.le_refl _) (by omega) (fun i h1 h2 => by
          by_cases z : i = s
          · rw [if_pos z, if_pos z]
          · rw [if_neg z, if_neg z, if_neg z])
        simp (disch := (first | assumption | omega | decide)) only [sX11_laysWays_0, sX11_laysWays_1, sX11_laysWays_4, sX11_laysWays_5, sX11_laysWays_6, sX11_laysWays_9, sX11_laysWays_11, sX11_laysWays_12, sX11_laysWays_13, sX11_laysWays_14, sX11_laysWays_15, sX11_laysWays_16, sX11_laysWays_17, sX11_laysWays_20, sX11_laysWays_21, sX11_laysWays_22, sX11_laysWays_23, sX11_laysWays_24, sX11_laysWays_25, sX11_laysWays_26, sX11_laysWays_28, sX11_laysWays_31, sX11_laysWays_32, sX11_laysWays_35, sX11_laysWays_36, sX11_laysWays_37, sX11_laysWays_38, sX11_laysWays_39, sX11_laysWays_41, sX11_laysWays_42, sX11_laysWays_45, sX11_laysWays_47, sX11_laysWays_48, sX11_laysWays_51, sX11_laysWays_52, sX11_laysWays_53, sX11_laysWays_54, sX11_laysWays_57, sX11_laysWays_60, sX11_laysWays_61, sX11_laysWays_64, sX11_laysWays_65, sX11_laysWays_66, sX11_laysWays_67, sX11_laysWays_68, sX11_laysWays_71, sX11_laysWays_72, sX11_laysWays_73, sX11_laysWays_74, sX11_laysWays_75, sX11_laysWays_76, sX11_laysWays_77, sX11_laysWays_78, sX11_laysWays_79, sX11_laysWays_82, sX11_laysWays_85, sX11_laysWays_88, sX11_laysWays_91, sX11_laysWays_92, sX11_laysWays_95, sX11_laysWays_96, sX11_laysWays_97, kI_i, kL_l, kV_v, am_rv_s, am_kl_i, am_kl_r, am_kl_n, am_kl_l, true_and, and_true, and_self, true_or, or_true, implies_true, forall_const, not_true_eq_false, not_false_eq_true, false_implies, true_implies, if_true, if_false, Bool.true_eq_false, Bool.false_eq_true, ob_457, gR_fr, r_457_27, r_457_47, n36, in_465, nI_clamp (show 36 < 2147483648 by omega), g36', e0, cl, c, bz_t, i01, in_481 (show s < 4096 by omega), iw_481 (show s < 4096 by omega), in_481 (show s ||| 2 ^ k < 4096 by omega), sc, oc, g1, shl1 k (by omega), nI_or, g2, nI_add, sw, nI_1])
  have key : ∀ k x x3, k ≤ 2 ^ l.length - 1 → x = nI k - 1 → ok (d + 2) mX11_laysWays 488 Q 488 0 0 27 [some (.ref 457), some (.int (nI (2 ^ l.length - 1))), some (.int x), x3] [] (fr N 481 k (2 ^ l.length) (fun s => nI (wS (drD l) l.length s))) = Q (some (.int (nI (wS (drD l) l.length 0)))) (fr N 481 0 (2 ^ l.length) (fun s => nI (wS (drD l) l.length s))) := by
    intro k
    induction k with
    | zero =>
      intro x x3 _ hx
      have e2 : (nI 0 - 1 < 0) = True := eq_true (by decide)
      subst hx
      have g0 : gI (fr N 481 0 (2 ^ l.length) (fun s => nI (wS (drD l) l.length s))) 481 0 = nI (wS (drD l) l.length 0) := gI_fr (Nat.le_refl _) pp
      have i0 : ∀ {M : am_M}, am_in 488 M 481 1 0 = True := in_481 (k := 0) (by omega)
      have c0 : (0 : Int32).toNatClampNeg = 0 := rfl
      rw [sX11_laysWays_27]
      simp (disch := (first | assumption | omega | decide)) only [sX11_laysWays_0, sX11_laysWays_1, sX11_laysWays_4, sX11_laysWays_5, sX11_laysWays_6, sX11_laysWays_9, sX11_laysWays_11, sX11_laysWays_12, sX11_laysWays_13, sX11_laysWays_14, sX11_laysWays_15, sX11_laysWays_16, sX11_laysWays_17, sX11_laysWays_20, sX11_laysWays_21, sX11_laysWays_22, sX11_laysWays_23, sX11_laysWays_24, sX11_laysWays_25, sX11_laysWays_26, sX11_laysWays_28, sX11_laysWays_31, sX11_laysWays_32, sX11_laysWays_35, sX11_laysWays_36, sX11_laysWays_37, sX11_laysWays_38, sX11_laysWays_39, sX11_laysWays_41, sX11_laysWays_42, sX11_laysWays_45, sX11_laysWays_47, sX11_laysWays_48, sX11_laysWays_51, sX11_laysWays_52, sX11_laysWays_53, sX11_laysWays_54, sX11_laysWays_57, sX11_laysWays_60, sX11_laysWays_61, sX11_laysWays_64, sX11_laysWays_65, sX11_laysWays_66, sX11_laysWays_67, sX11_laysWays_68, sX11_laysWays_71, sX11_laysWays_72, sX11_laysWays_73, sX11_laysWays_74, sX11_laysWays_75, sX11_laysWays_76, sX11_laysWays_77, sX11_laysWays_78, sX11_laysWays_79, sX11_laysWays_82, sX11_laysWays_85, sX11_laysWays_88, sX11_laysWays_91, sX11_laysWays_92, sX11_laysWays_95, sX11_laysWays_96, sX11_laysWays_97, kI_i, kL_l, kV_v, am_rv_s, am_kl_i, am_kl_r, am_kl_n, am_kl_l, true_and, and_true, and_self, true_or, or_true, implies_true, forall_const, not_true_eq_false, not_false_eq_true, false_implies, true_implies, if_true, if_false, Bool.true_eq_false, Bool.false_eq_true, ob_457, gR_fr, r_457_47, e2, i0, c0, g0]
    | succ k ih =>
      intro x x3 hk hx
      rw [nI_pred] at hx
      subst hx
      have e0 := nI_lt0 (k := k) (by omega)
      have kc : (nI k).toNatClampNeg = k := nI_clamp (by omega)
      have ih := fun x3 => ih (nI k + -1) x3 (by omega) (by rw [Int32.sub_eq_add_neg])
      have sw : sI (fr N 481 (k + 1) (2 ^ l.length) (fun s => nI (wS (drD l) l.length s))) 481 k 0 = fr N 481 k (2 ^ l.length) (fun i => nI (if i = k then sm (fun t => if cf (drD l) k t = true then wS (drD l) l.length (k ||| 2 ^ t) else 0) 0 else wS (drD l) l.length i)) := by
        rw [fr_c (g := fun i => nI (if i = k then sm (fun t => if cf (drD l) k t = true then wS (drD l) l.length (k ||| 2 ^ t) else 0) 0 else wS (drD l) l.length i)) (fun i h1 h2 => by rw [if_neg (by omega)])]
        exact fr_s (by rw [if_pos rfl]; rfl) (by omega)
      have sw2 : fr N 481 k (2 ^ l.length) (fun i => nI (if i = k then sm (fun t => if cf (drD l) k t = true then wS (drD l) l.length (k ||| 2 ^ t) else 0) l.length else wS (drD l) l.length i)) = fr N 481 k (2 ^ l.length) (fun s => nI (wS (drD l) l.length s)) := fr_c (fun i h1 h2 => by
        by_cases z : i = k
        · rw [if_pos z, z, ← wS_s (by omega)]
        · rw [if_neg z])
      have i1 : ok (d + 2) mX11_laysWays 488 Q 488 0 0 40 [some (.ref 457), some (.int (nI (2 ^ l.length - 1))), some (.int (nI k)), some (.int 0)] [] _ = _ := inner k (by omega)
      have g36' : ∀ f, gI (fr N 481 k (2 ^ l.length) f) 465 36 = nI l.length := fun f => by rw [gI_fro (by omega)]; exact g36
      rw [sX11_laysWays_27]
      simp (disch := (first | assumption | omega | decide)) only [sX11_laysWays_0, sX11_laysWays_1, sX11_laysWays_4, sX11_laysWays_5, sX11_laysWays_6, sX11_laysWays_9, sX11_laysWays_11, sX11_laysWays_12, sX11_laysWays_13, sX11_laysWays_14, sX11_laysWays_15, sX11_laysWays_16, sX11_laysWays_17, sX11_laysWays_20, sX11_laysWays_21, sX11_laysWays_22, sX11_laysWays_23, sX11_laysWays_24, sX11_laysWays_25, sX11_laysWays_26, sX11_laysWays_28, sX11_laysWays_31, sX11_laysWays_32, sX11_laysWays_35, sX11_laysWays_36, sX11_laysWays_37, sX11_laysWays_38, sX11_laysWays_39, sX11_laysWays_41, sX11_laysWays_42, sX11_laysWays_45, sX11_laysWays_47, sX11_laysWays_48, sX11_laysWays_51, sX11_laysWays_52, sX11_laysWays_53, sX11_laysWays_54, sX11_laysWays_57, sX11_laysWays_60, sX11_laysWays_61, sX11_laysWays_64, sX11_laysWays_65, sX11_laysWays_66, sX11_laysWays_67, sX11_laysWays_68, sX11_laysWays_71, sX11_laysWays_72, sX11_laysWays_73, sX11_laysWays_74, sX11_laysWays_75, sX11_laysWays_76, sX11_laysWays_77, sX11_laysWays_78, sX11_laysWays_79, sX11_laysWays_82, sX11_laysWays_85, sX11_laysWays_88, sX11_laysWays_91, sX11_laysWays_92, sX11_laysWays_95, sX11_laysWays_96, sX11_laysWays_97, kI_i, kL_l, kV_v, am_rv_s, am_kl_i, am_kl_r, am_kl_n, am_kl_l, true_and, and_true, and_self, true_or, or_true, implies_true, forall_const, not_true_eq_false, not_false_eq_true, false_implies, true_implies, if_true, if_false, Bool.true_eq_false, Bool.false_eq_true, ob_457, gR_fr, r_457_47, e0, iw_481 (show k < 4096 by omega), kc, sw, i1]
      rw [sX11_laysWays_40]
      simp (disch := (first | assumption | omega | decide)) only [sX11_laysWays_0, sX11_laysWays_1, sX11_laysWays_4, sX11_laysWays_5, sX11_laysWays_6, sX11_laysWays_9, sX11_laysWays_11, sX11_laysWays_12, sX11_laysWays_13, sX11_laysWays_14, sX11_laysWays_15, sX11_laysWays_16, sX11_laysWays_17, sX11_laysWays_20, sX11_laysWays_21, sX11_laysWays_22, sX11_laysWays_23, sX11_laysWays_24, sX11_laysWays_25, sX11_laysWays_26, sX11_laysWays_28, sX11_laysWays_31, sX11_laysWays_32, sX11_laysWays_35, sX11_laysWays_36, sX11_laysWays_37, sX11_laysWays_38, sX11_laysWays_39, sX11_laysWays_41, sX11_laysWays_42, sX11_laysWays_45, sX11_laysWays_47, sX11_laysWays_48, sX11_laysWays_51, sX11_laysWays_52, sX11_laysWays_53, sX11_laysWays_54, sX11_laysWays_57, sX11_laysWays_60, sX11_laysWays_61, sX11_laysWays_64, sX11_laysWays_65, sX11_laysWays_66, sX11_laysWays_67, sX11_laysWays_68, sX11_laysWays_71, sX11_laysWays_72, sX11_laysWays_73, sX11_laysWays_74, sX11_laysWays_75, sX11_laysWays_76, sX11_laysWays_77, sX11_laysWays_78, sX11_laysWays_79, sX11_laysWays_82, sX11_laysWays_85, sX11_laysWays_88, sX11_laysWays_91, sX11_laysWays_92, sX11_laysWays_95, sX11_laysWays_96, sX11_laysWays_97, kI_i, kL_l, kV_v, am_rv_s, am_kl_i, am_kl_r, am_kl_n, am_kl_l, true_and, and_true, and_self, true_or, or_true, implies_true, forall_const, not_true_eq_false, not_false_eq_true, false_implies, true_implies, if_true, if_false, Bool.true_eq_false, Bool.false_eq_true, ob_457, gR_fr, r_457_27, n36, in_465, nI_clamp, g36', Int32.le_refl, sw2, ih]
  have k0 := fun x3 => key (2 ^ l.length - 1) (nI (2 ^ l.length - 1) - 1) x3 (Nat.le_refl _) rfl
  have fc : (nI (2 ^ l.length - 1)).toNatClampNeg = 2 ^ l.length - 1 := nI_clamp (by omega)
  have sw0 : sI N 481 (2 ^ l.length - 1) 1 = fr N 481 (2 ^ l.length - 1) (2 ^ l.length) (fun s => nI (wS (drD l) l.length s)) := M_ext (fun b k => by
    rw [gI_sI, gI_fr']
    by_cases z : b = 481 ∧ k = 2 ^ l.length - 1
    · rw [if_pos z, if_pos (by omega), z.2, wS_full]; rfl
    · rw [if_neg z, if_neg (by omega)]) (fun _ _ => rfl) (fun _ _ => rfl)
  rw [eX11_laysWays]
  simp (disch := (first | assumption | omega | decide)) only [sX11_laysWays_0, sX11_laysWays_1, sX11_laysWays_4, sX11_laysWays_5, sX11_laysWays_6, sX11_laysWays_9, sX11_laysWays_11, sX11_laysWays_12, sX11_laysWays_13, sX11_laysWays_14, sX11_laysWays_15, sX11_laysWays_16, sX11_laysWays_17, sX11_laysWays_20, sX11_laysWays_21, sX11_laysWays_22, sX11_laysWays_23, sX11_laysWays_24, sX11_laysWays_25, sX11_laysWays_26, sX11_laysWays_28, sX11_laysWays_31, sX11_laysWays_32, sX11_laysWays_35, sX11_laysWays_36, sX11_laysWays_37, sX11_laysWays_38, sX11_laysWays_39, sX11_laysWays_41, sX11_laysWays_42, sX11_laysWays_45, sX11_laysWays_47, sX11_laysWays_48, sX11_laysWays_51, sX11_laysWays_52, sX11_laysWays_53, sX11_laysWays_54, sX11_laysWays_57, sX11_laysWays_60, sX11_laysWays_61, sX11_laysWays_64, sX11_laysWays_65, sX11_laysWays_66, sX11_laysWays_67, sX11_laysWays_68, sX11_laysWays_71, sX11_laysWays_72, sX11_laysWays_73, sX11_laysWays_74, sX11_laysWays_75, sX11_laysWays_76, sX11_laysWays_77, sX11_laysWays_78, sX11_laysWays_79, sX11_laysWays_82, sX11_laysWays_85, sX11_laysWays_88, sX11_laysWays_91, sX11_laysWays_92, sX11_laysWays_95, sX11_laysWays_96, sX11_laysWays_97, kI_i, kL_l, kV_v, am_rv_s, am_kl_i, am_kl_r, am_kl_n, am_kl_l, true_and, and_true, and_self, true_or, or_true, implies_true, forall_const, not_true_eq_false, not_false_eq_true, false_implies, true_implies, if_true, if_false, Bool.true_eq_false, Bool.false_eq_true, ob_457, ln, r_457_27, r_457_47, n36, in_465, nI_clamp (show 36 < 2147483648 by omega), g36, shl1 l.length (by omega), nI_sub1 pp, iw_481 (show 2 ^ l.length - 1 < 4096 by omega), fc, sw0, k0]
end
