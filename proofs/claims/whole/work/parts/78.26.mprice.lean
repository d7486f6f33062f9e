theorem l64_a {a b : Nat} (h : a + b < 2 ^ 31) : (nI a).toInt64 + (nI b).toInt64 = (nI (a + b)).toInt64 := by
  apply Int64.toInt_inj.mp
  rw [Int64.toInt_add, Int32.toInt_toInt64, Int32.toInt_toInt64, Int32.toInt_toInt64, nI_toInt (by omega), nI_toInt (by omega), nI_toInt (by omega), Int.bmod_eq_of_le (by omega) (by omega)]
  omega
theorem l64_m {c k : Nat} (h : c * k < 2 ^ 31) (hc : c < 2 ^ 31) (hk : k < 2 ^ 31) : (nI c).toInt64 * (nI k).toInt64 = (nI (c * k)).toInt64 := by
  apply Int64.toInt_inj.mp
  rw [Int64.toInt_mul, Int32.toInt_toInt64, Int32.toInt_toInt64, Int32.toInt_toInt64, nI_toInt hc, nI_toInt hk, nI_toInt h]
  generalize hm : c * k = m at *
  have e : ((c : Int) * (k : Int)) = (m : Int) := by rw [← Int.natCast_mul, hm]
  rw [e, Int.bmod_eq_of_le (by omega) (by omega)]
theorem rem64 {a k : Nat} (ha : a < 2 ^ 31) (hk : 0 < k) (hk2 : k < 2 ^ 31) : ((nI a).toInt64 - (nI a).toInt64 / (nI k).toInt64 * (nI k).toInt64).toInt32 = nI (a % k) := by
  have hmod : a % k < k := Nat.mod_lt _ hk
  have hq : k * (a / k) + a % k = a := Nat.div_add_mod a k
  have hle : a % k ≤ a := Nat.mod_le a k
  have hdm : a / k ≤ a := Nat.div_le_self a k
  have e1 : ((nI a).toInt64 / (nI k).toInt64).toInt = ((a / k : Nat) : Int) := by
    rw [Int64.toInt_div, Int32.toInt_toInt64, Int32.toInt_toInt64, nI_toInt ha, nI_toInt (by omega), Int.tdiv_eq_ediv_of_nonneg (by omega)]
    rw [← Int.natCast_ediv]
    generalize a / k = q at *
    rw [Int.bmod_eq_of_le (by omega) (by omega)]
  have e2 : ((nI a).toInt64 / (nI k).toInt64 * (nI k).toInt64).toInt = ((k * (a / k) : Nat) : Int) := by
    rw [Int64.toInt_mul, e1, Int32.toInt_toInt64, nI_toInt (by omega), ← Int.natCast_mul, Nat.mul_comm, Int.bmod_eq_of_le (by omega) (by omega)]
  apply Int32.toInt_inj.mp
  rw [Int64.toInt_toInt32, Int64.toInt_sub, e2, Int32.toInt_toInt64, nI_toInt ha, nI_toInt (by omega), Int.bmod_eq_of_le (n := ((a : Int) - _)) (by omega) (by omega), Int.bmod_eq_of_le (by omega) (by omega)]
  omega
theorem l64_inj {a b : Nat} (ha : a < 2 ^ 31) (hb : b < 2 ^ 31) (h : (nI a).toInt64 = (nI b).toInt64) : a = b := by
  have := congrArg Int64.toInt h
  rw [Int32.toInt_toInt64, Int32.toInt_toInt64, nI_toInt ha, nI_toInt hb] at this
  omega
def kyN (h so pa x n b t : Nat) : Nat := 10000 * (6 * (12 * (10 * (6 * (5 * (1 + h) + so) + pa) + x) + n) + b) + t
/-- the arguments with which a law is asked -/
def agB (h so pa x n b t : Nat) : Prop := h < 4 ∧ so < 5 ∧ pa < 6 ∧ x < 10 ∧ n < 12 ∧ b < 6 ∧ t < 10000
theorem kyN_lt {h so pa x n b t : Nat} (g : agB h so pa x n b t) : 0 < kyN h so pa x n b t ∧ kyN h so pa x n b t < 2 ^ 31 := by
  unfold agB at g; unfold kyN; omega
theorem kyN_inj {h so pa x n b t h' so' pa' x' n' b' t' : Nat} (g : agB h so pa x n b t) (g' : agB h' so' pa' x' n' b' t') (e : kyN h so pa x n b t = kyN h' so' pa' x' n' b' t') : h = h' ∧ so = so' ∧ pa = pa' ∧ x = x' ∧ n = n' ∧ b = b' ∧ t = t' := by
  unfold agB at g g'
  unfold kyN at e
  have e1 : t = t' ∧ 6 * (12 * (10 * (6 * (5 * (1 + h) + so) + pa) + x) + n) + b = 6 * (12 * (10 * (6 * (5 * (1 + h') + so') + pa') + x') + n') + b' := by
    generalize 6 * (12 * (10 * (6 * (5 * (1 + h) + so) + pa) + x) + n) + b = u at *
    generalize 6 * (12 * (10 * (6 * (5 * (1 + h') + so') + pa') + x') + n') + b' = u' at *
    omega
  obtain ⟨t1, e⟩ := e1
  have e1 : b = b' ∧ 12 * (10 * (6 * (5 * (1 + h) + so) + pa) + x) + n = 12 * (10 * (6 * (5 * (1 + h') + so') + pa') + x') + n' := by
    generalize 12 * (10 * (6 * (5 * (1 + h) + so) + pa) + x) + n = u at *
    generalize 12 * (10 * (6 * (5 * (1 + h') + so') + pa') + x') + n' = u' at *
    omega
  obtain ⟨t2, e⟩ := e1
  have e1 : n = n' ∧ 10 * (6 * (5 * (1 + h) + so) + pa) + x = 10 * (6 * (5 * (1 + h') + so') + pa') + x' := by
    generalize 10 * (6 * (5 * (1 + h) + so) + pa) + x = u at *
    generalize 10 * (6 * (5 * (1 + h') + so') + pa') + x' = u' at *
    omega
  obtain ⟨t3, e⟩ := e1
  have e1 : x = x' ∧ 6 * (5 * (1 + h) + so) + pa = 6 * (5 * (1 + h') + so') + pa' := by
    generalize 6 * (5 * (1 + h) + so) + pa = u at *
    generalize 6 * (5 * (1 + h') + so') + pa' = u' at *
    omega
  obtain ⟨t4, e⟩ := e1
  omega
/-- what is remembered of costs is right -/
def mem (M : am_M) (LL : List (List Nat)) : Prop := ∀ s, s < 8191 → gL M 479 s = 0 ∨ ∃ h so pa x n b t : Nat, h < LL.length ∧ agB h so pa x n b t ∧ gL M 479 s = (nI (kyN h so pa x n b t)).toInt64 ∧ gI M 480 s = prc LL (nI h) (nI so) (nI pa) (nI x) (nI n) (nI b) (nI t)
def LbM (M : am_M) (LL : List (List Nat)) (h : Int32) : Prop := gI M 457 7 = nI LL.length ∧ gI M 457 29 = h ∧ LL.length ≤ 4 ∧ lwL LL ∧ hld LL h ∧ (∀ i (hi : i < LL.length), gI M 460 i = nI LL[i].length ∧ ∀ k (hk : k < LL[i].length), gI M 459 (240 * i + k) = bsx LL[i][k]) ∧ mem M LL ∧ ∃ L, LMt M L
def XC0 (c j : Nat) : Prop := XG c j ∨ c = 461
def XC (c j : Nat) : Prop := XC0 c j ∨ c = 479 ∨ c = 480
section
variable {M N : am_M} {ap lim : Nat} {S : Sg} {P : List Sg} {l : List Dd} {LL : List (List Nat)} {h : Int32} {X : Nat → Nat → Prop}
theorem LbM_F0 (hF : Fw X M N) (hX : ∀ c j, ((c = 457 ∧ (j = 7 ∨ j = 29)) ∨ c = 459 ∨ c = 460 ∨ c = 479 ∨ c = 480) → ¬ X c j) (hL : ∃ L, LMt N L) (hb : LbM M LL h) : LbM N LL h := by
  obtain ⟨h1, h2, h3, h4, h5, h6, h7, _⟩ := hb
  refine ⟨by rw [hF.I (hX _ _ (by omega))]; exact h1, by rw [hF.I (hX _ _ (by omega))]; exact h2, h3, h4, h5, fun i hi => ⟨by rw [hF.I (hX _ _ (by omega))]; exact (h6 i hi).1, fun k hk => by rw [hF.I (hX _ _ (by omega))]; exact (h6 i hi).2 k hk⟩, fun s hs => ?_, hL⟩
  rw [hF.L (hX _ _ (by omega)), hF.I (hX _ _ (by omega))]
  exact h7 s hs
theorem LMt_e (h : ∀ j, gI N 461 j = gI M 461 j) (hL : ∃ L, LMt M L) : ∃ L, LMt N L := by
  obtain ⟨L, hL⟩ := hL
  exact ⟨L, fun x j a b c => by rw [h j]; exact hL x j a b c⟩
theorem LbM_Fw (hF : Fw X M N) (hX : ∀ c j, ((c = 457 ∧ (j = 7 ∨ j = 29)) ∨ c = 459 ∨ c = 460 ∨ c = 461 ∨ c = 479 ∨ c = 480) → ¬ X c j) (hb : LbM M LL h) : LbM N LL h := LbM_F0 hF (fun c j hc => hX c j (by omega)) (LMt_e (fun j => hF.I (hX _ _ (by omega))) hb.2.2.2.2.2.2.2) hb
def leM (M : am_M) (so pa x n b t : Int32) : am_M := sI (sI (sI (sI (sI (sI M 461 119 so) 461 105 pa) 461 120 x) 461 110 n) 461 98 b) 461 116 t
theorem Fw_leM {so pa x n b t : Int32} : Fw XC0 M (leM M so pa x n b t) := by
  unfold leM
  refine ((((((Fw.s ?_).tr (Fw.s ?_)).tr (Fw.s ?_)).tr (Fw.s ?_)).tr (Fw.s ?_)).tr (Fw.s ?_)) <;> exact Or.inr rfl
theorem ltr_j {x : Int32} {j : Nat} (hx : ¬ ltr x = -1) (hj : j < 128) (e : x = nI j) : (j = 119 ∧ ltr x = 0) ∨ (j = 105 ∧ ltr x = 1) ∨ (j = 120 ∧ ltr x = 2) ∨ (j = 110 ∧ ltr x = 3) ∨ (j = 98 ∧ ltr x = 4) ∨ (j = 116 ∧ ltr x = 5) := by
  subst e
  revert hx
  revert j
  decide +kernel
theorem LM_le {so pa x n b t : Nat} (hB : so ≤ 10000 ∧ pa ≤ 10000 ∧ x ≤ 10000 ∧ n ≤ 10000 ∧ b ≤ 10000 ∧ t ≤ 10000) : LMt (leM M (nI so) (nI pa) (nI x) (nI n) (nI b) (nI t)) (ltF (nI so) (nI pa) (nI x) (nI n) (nI b) (nI t)) := by
  intro z j hz hj e
  refine ⟨?_, ltF_n hB _⟩
  rcases ltr_j hz hj e with ⟨rfl, e1⟩ | ⟨rfl, e1⟩ | ⟨rfl, e1⟩ | ⟨rfl, e1⟩ | ⟨rfl, e1⟩ | ⟨rfl, e1⟩ <;> rw [e1] <;> rfl
theorem clam (v : Int32) : (if 0 < (if v < 99 then v else 99) then (if v < 99 then v else 99) else 0) = wI 0 v.toInt64 99 := by
  unfold wI
  rw [Int32.toInt_toInt64, Int32.toInt32_toInt64]
  have h1 : (v < 99) ↔ v.toInt < 99 := by rw [Int32.lt_iff_toInt_lt]; rfl
  have h2 : (0 < v) ↔ 0 < v.toInt := by rw [Int32.lt_iff_toInt_lt]; rfl
  have t0 : (0 : Int32).toInt = 0 := by decide
  have t9 : (99 : Int32).toInt = 99 := by decide
  rw [t0, t9]
  by_cases a : v < 99
  · rw [if_pos a]
    have a' := h1.mp a
    by_cases c : 0 < v
    · have c' := h2.mp c
      rw [if_pos c, if_neg (by omega), if_neg (by omega)]
    · have c' : ¬ 0 < v.toInt := fun z => c (h2.mpr z)
      rw [if_neg c]
      by_cases z : v.toInt < 0
      · rw [if_pos z]
      · rw [if_neg z, if_neg (by omega)]
        apply Int32.toInt_inj.mp
        rw [t0]; omega
  · have a' : ¬ v.toInt < 99 := fun z => a (h1.mpr z)
    rw [if_neg a, if_pos (by decide), if_neg (by omega)]
    by_cases z : 99 < v.toInt
    · rw [if_pos z]
    · rw [if_neg z]
      apply Int32.toInt_inj.mp
      rw [t9]; omega
theorem PB_law {tp : List Nat} {i : Nat} (hi : i < 4) (hk : lwOK tp) (hm : ∀ k (hk : k < tp.length), gI M 459 (240 * i + k) = bsx tp[k]) : PB (sI (sI (sR M 457 5 (some 459)) 457 8 (nI (240 * i))) 457 9 (nI tp.length)) 459 (240 * i) (tf tp) tp.length := by
  have hl := hk.2.1
  refine ⟨Or.inr ⟨rfl, by omega⟩, ?_, ?_, ?_, hl, fun k hk2 => ⟨tp[k], (hk.1 _ (List.getElem_mem hk2)).2, ?_, ?_⟩⟩
  · rw [gR_sI, gR_sI, gR_e]
  · rw [gI_j (by omega), gI_e]
  · rw [gI_e]
  · rw [gI_o (by omega), gI_o (by omega), gI_sR]; exact hm k hk2
  · unfold tf
    rw [List.getD_eq_getElem?_getD, List.getElem?_eq_getElem hk2]
    rfl
theorem m_costOf {so pa x n b t : Nat} (hW : WR M) (hb : LbM M LL h) (hg : agB 0 so pa x n b t) : ∃ M', (∀ d (Q : am_Q), 31 ≤ d → am_big d mX11_costOf [.ref 457, .int (nI so), .int (nI pa), .int (nI x), .int (nI n), .int (nI b), .int (nI t)] 488 M Q = Q (some (.int (prc LL h (nI so) (nI pa) (nI x) (nI n) (nI b) (nI t)))) M') ∧ LbM M' LL h ∧ Fw XC M M' := by
  obtain ⟨h1, h2, h3, h4, h5, h6, h7, _⟩ := id hb
  rcases h5 with rfl | ⟨i, hi, rfl⟩
  · refine ⟨M, fun d Q hd => ?_, hb, Fw.rf⟩
    obtain ⟨d', rfl⟩ : ∃ d', d = d' + 1 := ⟨d - 1, by omega⟩
    unfold prc
    rw [if_pos rfl, eX11_costOf]
    simp (disch := (first | assumption | omega | decide)) only [sX11_costOf_0, sX11_costOf_1, sX11_costOf_4, sX11_costOf_5, sX11_costOf_8, sX11_costOf_9, sX11_costOf_10, sX11_costOf_11, sX11_costOf_12, sX11_costOf_13, sX11_costOf_14, sX11_costOf_17, sX11_costOf_18, sX11_costOf_19, sX11_costOf_21, sX11_costOf_24, sX11_costOf_26, sX11_costOf_27, sX11_costOf_28, sX11_costOf_29, sX11_costOf_30, sX11_costOf_32, sX11_costOf_35, sX11_costOf_37, sX11_costOf_38, sX11_costOf_39, sX11_costOf_40, sX11_costOf_41, sX11_costOf_43, sX11_costOf_46, sX11_costOf_48, sX11_costOf_49, sX11_costOf_50, sX11_costOf_51, sX11_costOf_52, sX11_costOf_54, sX11_costOf_57, sX11_costOf_59, sX11_costOf_60, sX11_costOf_62, sX11_costOf_63, sX11_costOf_64, sX11_costOf_66, sX11_costOf_69, sX11_costOf_71, sX11_costOf_72, sX11_costOf_74, sX11_costOf_75, sX11_costOf_76, sX11_costOf_78, sX11_costOf_81, sX11_costOf_83, sX11_costOf_84, sX11_costOf_86, sX11_costOf_87, sX11_costOf_88, sX11_costOf_90, sX11_costOf_92, sX11_costOf_95, sX11_costOf_96, sX11_costOf_97, sX11_costOf_99, sX11_costOf_100, sX11_costOf_103, sX11_costOf_105, sX11_costOf_106, sX11_costOf_108, sX11_costOf_109, sX11_costOf_112, sX11_costOf_113, sX11_costOf_116, sX11_costOf_118, sX11_costOf_119, sX11_costOf_120, sX11_costOf_121, sX11_costOf_124, sX11_costOf_126, sX11_costOf_127, sX11_costOf_128, sX11_costOf_129, sX11_costOf_132, sX11_costOf_134, sX11_costOf_135, sX11_costOf_136, sX11_costOf_137, sX11_costOf_140, sX11_costOf_142, sX11_costOf_143, sX11_costOf_144, sX11_costOf_145, sX11_costOf_148, sX11_costOf_150, sX11_costOf_152, sX11_costOf_153, sX11_costOf_154, sX11_costOf_157, sX11_costOf_159, sX11_costOf_161, sX11_costOf_162, sX11_costOf_163, sX11_costOf_166, sX11_costOf_168, sX11_costOf_170, sX11_costOf_171, sX11_costOf_172, sX11_costOf_173, sX11_costOf_176, sX11_costOf_179, sX11_costOf_180, sX11_costOf_183, sX11_costOf_184, sX11_costOf_185, sX11_costOf_188, sX11_costOf_189, sX11_costOf_192, sX11_costOf_193, sX11_costOf_196, sX11_costOf_197, sX11_costOf_200, sX11_costOf_202, sX11_costOf_204, sX11_costOf_205, sX11_costOf_206, sX11_costOf_209, sX11_costOf_211, sX11_costOf_212, sX11_costOf_214, sX11_costOf_215, sX11_costOf_218, sX11_costOf_221, sX11_costOf_224, sX11_costOf_225, sX11_costOf_226, sX11_costOf_229, sX11_costOf_231, sX11_costOf_232, kI_i, kL_l, kV_v, am_rv_s, am_kl_i, am_kl_r, am_kl_n, am_kl_l, true_and, and_true, and_self, true_or, or_true, implies_true, forall_const, not_true_eq_false, not_false_eq_true, false_implies, true_implies, if_true, if_false, Bool.true_eq_false, Bool.false_eq_true, ob_457, h2]
  · have hg2 : agB i so pa x n b t := by unfold agB at *; omega
    obtain ⟨k0, k1⟩ := kyN_lt hg2
    unfold agB at hg
    have ne : (nI i = -1) = False := nI_m1 (by omega)
    have a1 : (1 : Int64) + (nI i).toInt64 = (nI (1 + i)).toInt64 := l64_a (a := 1) (by omega)
    have a2 : (5 : Int64) * (nI (1 + i)).toInt64 + (nI so).toInt64 = (nI (5 * (1 + i) + so)).toInt64 := by
      rw [show (5 : Int64) = (nI 5).toInt64 from rfl, l64_m (by omega) (by omega) (by omega), l64_a (by omega)]
    have a3 : (6 : Int64) * (nI (5 * (1 + i) + so)).toInt64 + (nI pa).toInt64 = (nI (6 * (5 * (1 + i) + so) + pa)).toInt64 := by
      rw [show (6 : Int64) = (nI 6).toInt64 from rfl, l64_m (by omega) (by omega) (by omega), l64_a (by omega)]
    have a4 : (10 : Int64) * (nI (6 * (5 * (1 + i) + so) + pa)).toInt64 + (nI x).toInt64 = (nI (10 * (6 * (5 * (1 + i) + so) + pa) + x)).toInt64 := by
      rw [show (10 : Int64) = (nI 10).toInt64 from rfl, l64_m (by omega) (by omega) (by omega), l64_a (by omega)]
    have a5 : (12 : Int64) * (nI (10 * (6 * (5 * (1 + i) + so) + pa) + x)).toInt64 + (nI n).toInt64 = (nI (12 * (10 * (6 * (5 * (1 + i) + so) + pa) + x) + n)).toInt64 := by
      rw [show (12 : Int64) = (nI 12).toInt64 from rfl, l64_m (by omega) (by omega) (by omega), l64_a (by omega)]
    have a6 : (6 : Int64) * (nI (12 * (10 * (6 * (5 * (1 + i) + so) + pa) + x) + n)).toInt64 + (nI b).toInt64 = (nI (6 * (12 * (10 * (6 * (5 * (1 + i) + so) + pa) + x) + n) + b)).toInt64 := by
      rw [show (6 : Int64) = (nI 6).toInt64 from rfl, l64_m (by omega) (by omega) (by omega), l64_a (by omega)]
    have a7 : (10000 : Int64) * (nI (6 * (12 * (10 * (6 * (5 * (1 + i) + so) + pa) + x) + n) + b)).toInt64 + (nI t).toInt64 = (nI (kyN i so pa x n b t)).toInt64 := by
      rw [show (10000 : Int64) = (nI 10000).toInt64 from rfl, l64_m (by omega) (by omega) (by omega), l64_a (by omega)]
      rfl
    generalize hK : kyN i so pa x n b t = K at *
    have hs : K % 8191 < 8191 := Nat.mod_lt _ (by omega)
    have a8 : ((nI K).toInt64 - (nI K).toInt64 / 8191 * 8191).toInt32 = nI (K % 8191) := rem64 (k := 8191) k1 (by omega) (by omega)
    have z8 : ((8191 : Int64) = 0) = False := eq_false (by decide)
    generalize hsp : K % 8191 = sp at *
    have w479 := iw_479 hs
    have w480 := iw_480 hs
    have n480 := fun (M : am_M) => in_480 (M := M) hs
    have csp : (nI sp).toNatClampNeg = sp := nI_clamp (by omega)
    have lc : ∀ u v : Int64, (lg_cmp u v = 0) = (u = v) := fun u v => propext (lg_cmp_eq u v)
    by_cases hit : gL M 479 sp = (nI K).toInt64
    · have ev : gI M 480 sp = prc LL (nI i) (nI so) (nI pa) (nI x) (nI n) (nI b) (nI t) := by
        rcases h7 sp hs with z | ⟨h', so', pa', x', n', b', t', q1, q2, q3, q4⟩
        · rw [hit, show (0 : Int64) = (nI 0).toInt64 from rfl] at z
          have := l64_inj k1 (by omega) z
          omega
        · rw [hit] at q3
          have q5 := l64_inj k1 (kyN_lt q2).2 q3
          rw [← hK] at q5
          obtain ⟨rfl, rfl, rfl, rfl, rfl, rfl, rfl⟩ := kyN_inj hg2 q2 q5
          exact q4
      refine ⟨M, fun d Q hd => ?_, hb, Fw.rf⟩
      obtain ⟨d', rfl⟩ : ∃ d', d = d' + 1 := ⟨d - 1, by omega⟩
      have hit' := eq_true hit
      rw [eX11_costOf, ← ev]
      simp (disch := (first | assumption | omega | decide)) only [sX11_costOf_0, sX11_costOf_1, sX11_costOf_4, sX11_costOf_5, sX11_costOf_8, sX11_costOf_9, sX11_costOf_10, sX11_costOf_11, sX11_costOf_12, sX11_costOf_13, sX11_costOf_14, sX11_costOf_17, sX11_costOf_18, sX11_costOf_19, sX11_costOf_21, sX11_costOf_24, sX11_costOf_26, sX11_costOf_27, sX11_costOf_28, sX11_costOf_29, sX11_costOf_30, sX11_costOf_32, sX11_costOf_35, sX11_costOf_37, sX11_costOf_38, sX11_costOf_39, sX11_costOf_40, sX11_costOf_41, sX11_costOf_43, sX11_costOf_46, sX11_costOf_48, sX11_costOf_49, sX11_costOf_50, sX11_costOf_51, sX11_costOf_52, sX11_costOf_54, sX11_costOf_57, sX11_costOf_59, sX11_costOf_60, sX11_costOf_62, sX11_costOf_63, sX11_costOf_64, sX11_costOf_66, sX11_costOf_69, sX11_costOf_71, sX11_costOf_72, sX11_costOf_74, sX11_costOf_75, sX11_costOf_76, sX11_costOf_78, sX11_costOf_81, sX11_costOf_83, sX11_costOf_84, sX11_costOf_86, sX11_costOf_87, sX11_costOf_88, sX11_costOf_90, sX11_costOf_92, sX11_costOf_95, sX11_costOf_96, sX11_costOf_97, sX11_costOf_99, sX11_costOf_100, sX11_costOf_103, sX11_costOf_105, sX11_costOf_106, sX11_costOf_108, sX11_costOf_109, sX11_costOf_112, sX11_costOf_113, sX11_costOf_116, sX11_costOf_118, sX11_costOf_119, sX11_costOf_120, sX11_costOf_121, sX11_costOf_124, sX11_costOf_126, sX11_costOf_127, sX11_costOf_128, sX11_costOf_129, sX11_costOf_132, sX11_costOf_134, sX11_costOf_135, sX11_costOf_136, sX11_costOf_137, sX11_costOf_140, sX11_costOf_142, sX11_costOf_143, sX11_costOf_144, sX11_costOf_145, sX11_costOf_148, sX11_costOf_150, sX11_costOf_152, sX11_costOf_153, sX11_costOf_154, sX11_costOf_157, sX11_costOf_159, sX11_costOf_161, sX11_costOf_162, sX11_costOf_163, sX11_costOf_166, sX11_costOf_168, sX11_costOf_170, sX11_costOf_171, sX11_costOf_172, sX11_costOf_173, sX11_costOf_176, sX11_costOf_179, sX11_costOf_180, sX11_costOf_183, sX11_costOf_184, sX11_costOf_185, sX11_costOf_188, sX11_costOf_189, sX11_costOf_192, sX11_costOf_193, sX11_costOf_196, sX11_costOf_197, sX11_costOf_200, sX11_costOf_202, sX11_costOf_204, sX11_costOf_205, sX11_costOf_206, sX11_costOf_209, sX11_costOf_211, sX11_costOf_212, sX11_costOf_214, sX11_costOf_215, sX11_costOf_218, sX11_costOf_221, sX11_costOf_224, sX11_costOf_225, sX11_costOf_226, sX11_costOf_229, sX11_costOf_231, sX11_costOf_232, kI_i, kL_l, kV_v, am_rv_s, am_kl_i, am_kl_r, am_kl_n, am_kl_l, true_and, and_true, and_self, true_or, or_true, implies_true, forall_const, not_true_eq_false, not_false_eq_true, false_implies, true_implies, if_true, if_false, Bool.true_eq_false, Bool.false_eq_true, ob_457, h2, ne, a1, a2, a3, a4, a5, a6, a7, a8, z8, r_457_45, r_457_46, w479, n480, csp, lc, hit', kl_n]
    · have hk := h4 LL[i] (List.getElem_mem hi)
      have fl := Fw_leM (M := M) (so := nI so) (pa := nI pa) (x := nI x) (n := nI n) (b := nI b) (t := nI t)
      have hW1 := fl.2 hW
      have g459 : ∀ j, gI (leM M (nI so) (nI pa) (nI x) (nI n) (nI b) (nI t)) 459 j = gI M 459 j := fun j => fl.I (by unfold XC0 XG; omega)
      have hB : so ≤ 10000 ∧ pa ≤ 10000 ∧ x ≤ 10000 ∧ n ≤ 10000 ∧ b ≤ 10000 ∧ t ≤ 10000 := by omega
      obtain ⟨M2, e2, f2, r2, r3⟩ := m_goThrough (M := leM M (nI so) (nI pa) (nI x) (nI n) (nI b) (nI t)) rfl hW1 (PB_law (i := i) (by omega) hk (fun k hk2 => by rw [g459]; exact (h6 i hi).2 k hk2)) (LM_le hB)
      obtain ⟨vs, hv, r4⟩ := r3 hk.2.2
      rw [lawV_eq hv] at r4
      have f3 : Fw XC0 M M2 := fl.tr (f2.mo (fun c j z => Or.inl z))
      have hW2 := f3.2 hW
      have q29 : gI (leM M (nI so) (nI pa) (nI x) (nI n) (nI b) (nI t)) 457 29 = nI i := (fl.I (by unfold XC0 XG; omega)).trans h2
      have q460 : gI (leM M (nI so) (nI pa) (nI x) (nI n) (nI b) (nI t)) 460 i = nI LL[i].length := (fl.I (by unfold XC0 XG; omega)).trans (h6 i hi).1
      have m240 : (240 : Int32) * nI i = nI (240 * i) := by rw [show (240 : Int32) = nI 240 from rfl, pk_mul]
      have hp : prc LL (nI i) (nI so) (nI pa) (nI x) (nI n) (nI b) (nI t) = wI 0 (lawV LL[i] (ltF (nI so) (nI pa) (nI x) (nI n) (nI b) (nI t))).toInt64 99 := by
        unfold prc
        rw [if_neg (fun z => by rw [z] at ne; simp at ne), nI_clamp (by omega)]
        rw [List.getD_eq_getElem?_getD, List.getElem?_eq_getElem hi]
        rfl
      have cl := clam (lawV LL[i] (ltF (nI so) (nI pa) (nI x) (nI n) (nI b) (nI t)))
      rw [← hp] at cl
      generalize hV : prc LL (nI i) (nI so) (nI pa) (nI x) (nI n) (nI b) (nI t) = V at *
      generalize hv0 : lawV LL[i] (ltF (nI so) (nI pa) (nI x) (nI n) (nI b) (nI t)) = v0 at *
      have f4 : Fw XC M (sI (sL M2 479 sp (nI K).toInt64) 480 sp V) := ((f3.mo (Y := XC) (fun c j z => Or.inl z)).tr (Fw.l (X := XC) (Or.inr (Or.inl rfl)))).tr (Fw.s (X := XC) (Or.inr (Or.inr rfl)))
      refine ⟨sI (sL M2 479 sp (nI K).toInt64) 480 sp V, fun d Q hd => ?_, ?_, f4⟩
      · obtain ⟨d', rfl⟩ : ∃ d', d = d' + 1 := ⟨d - 1, by omega⟩
        have hit' := eq_false hit
        have e3 := fun (Q : am_Q) => e2 d' Q (by omega)
        have hm : sI (sI (sI (sI (sI (sI M 461 119 (nI so)) 461 105 (nI pa)) 461 120 (nI x)) 461 110 (nI n)) 461 98 (nI b)) 461 116 (nI t) = leM M (nI so) (nI pa) (nI x) (nI n) (nI b) (nI t) := rfl
        have y1 : am_iw 488 461 1 119 = True := iw_461 (k := 119) (by omega)
        have y2 : am_iw 488 461 1 105 = True := iw_461 (k := 105) (by omega)
        have y3 : am_iw 488 461 1 120 = True := iw_461 (k := 120) (by omega)
        have y4 : am_iw 488 461 1 110 = True := iw_461 (k := 110) (by omega)
        have y5 : am_iw 488 461 1 98 = True := iw_461 (k := 98) (by omega)
        have y6 : am_iw 488 461 1 116 = True := iw_461 (k := 116) (by omega)
        have c1 : (119 : Int32).toNatClampNeg = 119 := rfl
        have c2 : (105 : Int32).toNatClampNeg = 105 := rfl
        have c3 : (120 : Int32).toNatClampNeg = 120 := rfl
        have c4 : (110 : Int32).toNatClampNeg = 110 := rfl
        have c5 : (98 : Int32).toNatClampNeg = 98 := rfl
        have c6 : (116 : Int32).toNatClampNeg = 116 := rfl
        have g14 : gI (sL M2 479 sp (nI K).toInt64) 457 14 = v0 := r4
        have i460 := fun (M : am_M) => in_460 (M := M) (k := i) (by omega)
        have ci : (nI i).toNatClampNeg = i := nI_clamp (by omega)
        rw [eX11_costOf]
        simp (disch := (first | assumption | omega | decide)) only [sX11_costOf_0, sX11_costOf_1, sX11_costOf_4, sX11_costOf_5, sX11_costOf_8, sX11_costOf_9, sX11_costOf_10, sX11_costOf_11, sX11_costOf_12, sX11_costOf_13, sX11_costOf_14, sX11_costOf_17, sX11_costOf_18, sX11_costOf_19, sX11_costOf_21, sX11_costOf_24, sX11_costOf_26, sX11_costOf_27, sX11_costOf_28, sX11_costOf_29, sX11_costOf_30, sX11_costOf_32, sX11_costOf_35, sX11_costOf_37, sX11_costOf_38, sX11_costOf_39, sX11_costOf_40, sX11_costOf_41, sX11_costOf_43, sX11_costOf_46, sX11_costOf_48, sX11_costOf_49, sX11_costOf_50, sX11_costOf_51, sX11_costOf_52, sX11_costOf_54, sX11_costOf_57, sX11_costOf_59, sX11_costOf_60, sX11_costOf_62, sX11_costOf_63, sX11_costOf_64, sX11_costOf_66, sX11_costOf_69, sX11_costOf_71, sX11_costOf_72, sX11_costOf_74, sX11_costOf_75, sX11_costOf_76, sX11_costOf_78, sX11_costOf_81, sX11_costOf_83, sX11_costOf_84, sX11_costOf_86, sX11_costOf_87, sX11_costOf_88, sX11_costOf_90, sX11_costOf_92, sX11_costOf_95, sX11_costOf_96, sX11_costOf_97, sX11_costOf_99, sX11_costOf_100, sX11_costOf_103, sX11_costOf_105, sX11_costOf_106, sX11_costOf_108, sX11_costOf_109, sX11_costOf_112, sX11_costOf_113, sX11_costOf_116, sX11_costOf_118, sX11_costOf_119, sX11_costOf_120, sX11_costOf_121, sX11_costOf_124, sX11_costOf_126, sX11_costOf_127, sX11_costOf_128, sX11_costOf_129, sX11_costOf_132, sX11_costOf_134, sX11_costOf_135, sX11_costOf_136, sX11_costOf_137, sX11_costOf_140, sX11_costOf_142, sX11_costOf_143, sX11_costOf_144, sX11_costOf_145, sX11_costOf_148, sX11_costOf_150, sX11_costOf_152, sX11_costOf_153, sX11_costOf_154, sX11_costOf_157, sX11_costOf_159, sX11_costOf_161, sX11_costOf_162, sX11_costOf_163, sX11_costOf_166, sX11_costOf_168, sX11_costOf_170, sX11_costOf_171, sX11_costOf_172, sX11_costOf_173, sX11_costOf_176, sX11_costOf_179, sX11_costOf_180, sX11_costOf_183, sX11_costOf_184, sX11_costOf_185, sX11_costOf_188, sX11_costOf_189, sX11_costOf_192, sX11_costOf_193, sX11_costOf_196, sX11_costOf_197, sX11_costOf_200, sX11_costOf_202, sX11_costOf_204, sX11_costOf_205, sX11_costOf_206, sX11_costOf_209, sX11_costOf_211, sX11_costOf_212, sX11_costOf_214, sX11_costOf_215, sX11_costOf_218, sX11_costOf_221, sX11_costOf_224, sX11_costOf_225, sX11_costOf_226, sX11_costOf_229, sX11_costOf_231, sX11_costOf_232, kI_i, kL_l, kV_v, am_rv_s, am_kl_i, am_kl_r, am_kl_n, am_kl_l, true_and, and_true, and_self, true_or, or_true, implies_true, forall_const, not_true_eq_false, not_false_eq_true, false_implies, true_implies, if_true, if_false, Bool.true_eq_false, Bool.false_eq_true, ob_457, h2, ne, a1, a2, a3, a4, a5, a6, a7, a8, z8, r_457_45, r_457_46, r_457_4, r_457_2, r_457_3, w479, w480, n480, csp, lc, hit', kl_n, y1, y2, y3, y4, y5, y6, c1, c2, c3, c4, c5, c6, gR_sI, gR_sL, hm, q29, m240, i460, ci, q460, e3, g14, cl, gI_e]
      · obtain ⟨l1, l2, l3, l4, l5, l6, l7, l8⟩ := LbM_F0 f3 (fun c j hc => by unfold XC0 XG; omega) ⟨_, fun x j a b c => by rw [f2.I (by unfold XG; omega)]; exact LM_le hB x j a b c⟩ hb
        refine ⟨by rw [gI_o (by omega), gI_sL]; exact l1, by rw [gI_o (by omega), gI_sL]; exact l2, l3, l4, l5, fun i' hi' => ⟨by rw [gI_o (by omega), gI_sL]; exact (l6 i' hi').1, fun k hk => by rw [gI_o (by omega), gI_sL]; exact (l6 i' hi').2 k hk⟩, fun s hs2 => ?_, LMt_e (fun j => by rw [gI_o (by omega), gI_sL]) l8⟩
        by_cases e : s = sp
        · subst e
          refine Or.inr ⟨i, so, pa, x, n, b, t, hi, hg2, ?_, ?_⟩
          · rw [gL_sI, gL_e, hK]
          · rw [gI_e, hV]
        · rw [gL_sI, gL_j e, gI_j e, gI_sL]
          exact l7 s hs2
theorem m_costAt {e n b : Nat} (hW : WR M) (hb : LbM M LL h) (hs : StM M 465 0 ap S) (ht : S.2.2.2.1 ≤ 9999) (hw : WFl S.1) (he : e < S.1.length) (hn : n < 12) (hbb : b < 6) : ∃ M', (∀ d (Q : am_Q), 32 ≤ d → am_big d mX11_costAt [.ref 457, .int (nI e), .int (nI n), .int (nI b)] 488 M Q = Q (some (.int (prc LL h (sf S.1 e) (pf S.1 e) (xf S.1 e) (nI n) (nI b) (nI S.2.2.2.1)))) M') ∧ LbM M' LL h ∧ Fw XC M M' := by
  obtain ⟨s, p, x, e1, e2, e3, b1, b2, b3, _⟩ := WF_at hw he
  obtain ⟨M', ep, lb, f1⟩ := m_costOf (so := s) (pa := p) (x := x) (n := n) (b := b) (t := S.2.2.2.1) hW hb (by unfold agB; omega)
  have hl := hs.1
  refine ⟨M', fun d Q hd => ?_, lb, f1⟩
  obtain ⟨d', rfl⟩ : ∃ d', d = d' + 1 := ⟨d - 1, by omega⟩
  obtain ⟨q1, q2, q3⟩ := Pc_get hs.p he
  have q4 : gI M 465 42 = nI S.2.2.2.1 := by have := hs.2.2.2.2.2.1; rwa [Nat.zero_add] at this
  rw [e1] at q1; rw [e2] at q2; rw [e3] at q3
  have ep' := fun (Q : am_Q) => ep d' Q (by omega)
  rw [e1, e2, e3, eX11_costAt]
  simp (disch := (first | assumption | omega | decide)) only [sX11_costAt_0, sX11_costAt_1, sX11_costAt_2, sX11_costAt_5, sX11_costAt_6, sX11_costAt_7, sX11_costAt_8, sX11_costAt_9, sX11_costAt_10, sX11_costAt_13, sX11_costAt_14, sX11_costAt_15, sX11_costAt_16, sX11_costAt_17, sX11_costAt_18, sX11_costAt_19, sX11_costAt_20, sX11_costAt_23, sX11_costAt_24, sX11_costAt_25, sX11_costAt_26, sX11_costAt_27, sX11_costAt_28, sX11_costAt_29, sX11_costAt_30, sX11_costAt_31, sX11_costAt_32, sX11_costAt_35, sX11_costAt_37, sX11_costAt_38, sX11_costAt_41, kI_i, kL_l, kV_v, am_rv_s, am_kl_i, am_kl_r, am_kl_n, am_kl_l, true_and, and_true, and_self, true_or, or_true, implies_true, forall_const, not_true_eq_false, not_false_eq_true, false_implies, true_implies, if_true, if_false, Bool.true_eq_false, Bool.false_eq_true, ob_457, r_457_27, nI_m3, nI_1, nI_2, n42, in_465, nI_clamp, q1, q2, q3, q4, ep']
theorem m_cost {y n b : Int32} (hb : LbM M LL h) (hr : RS M ap lim S P) : ∃ M', (∀ d (Q : am_Q), 33 ≤ d → am_big d mX11_cost [.ref 457, .int y, .int n, .int b] 488 M Q = Q (some (.int (costA LL h S y n b))) M') ∧ LbM M' LL h ∧ Fw (fun c j => XC c j ∨ (c = 457 ∧ j = 0)) M M' := by
  have f0 : Fw (fun c j => XC c j ∨ (c = 457 ∧ j = 0)) M (sI M 457 0 0) := Fw.s (Or.inr ⟨rfl, rfl⟩)
  have hb0 : LbM (sI M 457 0 0) LL h := LbM_Fw (X := fun c j => c = 457 ∧ j = 0) (Fw.s ⟨rfl, rfl⟩) (fun c j hc => by omega) hb
  obtain ⟨hW, hS, hP, hf, hm, hw, hlim, ht⟩ := RS_th hr
  generalize hM0 : sI M 457 0 0 = M0 at *
  have hl := hS.1
  have ha := fun d (Q : am_Q) => m_isDeed (d := d) (Q := Q) (y := y) hW hS.p
  have i11 : (decide (0 ≤ n) && decide (n ≤ 11)) = decide (0 ≤ n ∧ n < 12) := by
    have e : (n ≤ 11) = (n < 12) := by rw [Int32.le_iff_toInt_le, Int32.lt_iff_toInt_lt, show (11 : Int32).toInt = 11 from by decide, show (12 : Int32).toInt = 12 from by decide]; exact propext (by omega)
    by_cases c : n < 12
    · have c' : n ≤ 11 := by rw [e]; exact c
      by_cases a : 0 ≤ n <;> simp [a, c, c']
    · have c' : ¬ n ≤ 11 := by rw [e]; exact c
      by_cases a : 0 ≤ n <;> simp [a, c, c']
  have i5 : (decide (0 ≤ b) && decide (b ≤ 5)) = decide (0 ≤ b ∧ b ≤ 5) := by by_cases a : 0 ≤ b <;> by_cases c : b ≤ 5 <;> simp [a, c]
  unfold costA
  by_cases c : 0 ≤ y ∧ y < nI S.1.length
  · obtain ⟨e, he, rfl⟩ := deed_x (by omega) c
    have cd := decide_eq_true c
    by_cases c2 : 0 ≤ n ∧ n < 12
    · rw [decide_eq_true c2] at i11
      by_cases c3 : 0 ≤ b ∧ b ≤ 5
      · rw [decide_eq_true c3] at i5
        obtain ⟨n', hn', rfl⟩ := nI_of (Int32.not_lt.mpr c2.1)
        obtain ⟨b', hb', rfl⟩ := nI_of (Int32.not_lt.mpr c3.1)
        have hn : n' < 12 := by have := c2.2; rwa [show (12 : Int32) = nI 12 from rfl, nI_ltE hn' (by omega)] at this
        have hbb : b' ≤ 5 := by have := c3.2; rwa [show (5 : Int32) = nI 5 from rfl, nI_leE hb' (by omega)] at this
        obtain ⟨M', ep, lb, f1⟩ := m_costAt (n := n') (b := b') hW hb0 hS ht hw he hn (by omega)
        refine ⟨M', fun d Q hd => ?_, lb, f0.tr (f1.mo (fun c j z => Or.inl z))⟩
        obtain ⟨d', rfl⟩ : ∃ d', d = d' + 2 := ⟨d - 2, by omega⟩
        have ep' := fun (Q : am_Q) => ep (d' + 1) Q (by omega)
        rw [if_pos ⟨c.1, c.2, c2.1, c2.2, c3.1, c3.2⟩, nI_clamp (by omega), eX11_cost]
        simp (disch := (first | assumption | omega | decide)) only [sX11_cost_0, sX11_cost_1, sX11_cost_2, sX11_cost_5, sX11_cost_6, sX11_cost_7, sX11_cost_10, sX11_cost_13, sX11_cost_14, sX11_cost_15, sX11_cost_16, sX11_cost_19, sX11_cost_22, sX11_cost_25, sX11_cost_26, sX11_cost_27, sX11_cost_28, sX11_cost_31, sX11_cost_34, sX11_cost_37, sX11_cost_38, sX11_cost_39, sX11_cost_40, sX11_cost_41, sX11_cost_44, sX11_cost_47, sX11_cost_48, kI_i, kL_l, kV_v, am_rv_s, am_kl_i, am_kl_r, am_kl_n, am_kl_l, true_and, and_true, and_self, true_or, or_true, implies_true, forall_const, not_true_eq_false, not_false_eq_true, false_implies, true_implies, if_true, if_false, Bool.true_eq_false, Bool.false_eq_true, ob_457, hM0, ha, cd, bz_t, i01, c64_0, c64_11, c64_5, m_isIn, i11, i5, ep']
      · rw [decide_eq_false c3] at i5
        refine ⟨M0, fun d Q hd => ?_, hb0, f0⟩
        obtain ⟨d', rfl⟩ : ∃ d', d = d' + 2 := ⟨d - 2, by omega⟩
        rw [if_neg (fun z => c3 z.2.2.2.2), eX11_cost]
        simp (disch := (first | assumption | omega | decide)) only [sX11_cost_0, sX11_cost_1, sX11_cost_2, sX11_cost_5, sX11_cost_6, sX11_cost_7, sX11_cost_10, sX11_cost_13, sX11_cost_14, sX11_cost_15, sX11_cost_16, sX11_cost_19, sX11_cost_22, sX11_cost_25, sX11_cost_26, sX11_cost_27, sX11_cost_28, sX11_cost_31, sX11_cost_34, sX11_cost_37, sX11_cost_38, sX11_cost_39, sX11_cost_40, sX11_cost_41, sX11_cost_44, sX11_cost_47, sX11_cost_48, kI_i, kL_l, kV_v, am_rv_s, am_kl_i, am_kl_r, am_kl_n, am_kl_l, true_and, and_true, and_self, true_or, or_true, implies_true, forall_const, not_true_eq_false, not_false_eq_true, false_implies, true_implies, if_true, if_false, Bool.true_eq_false, Bool.false_eq_true, ob_457, hM0, ha, cd, bz_t, bz_f, i01, c64_0, c64_11, c64_5, m_isIn, i11, i5]
    · rw [decide_eq_false c2] at i11
      refine ⟨M0, fun d Q hd => ?_, hb0, f0⟩
      obtain ⟨d', rfl⟩ : ∃ d', d = d' + 2 := ⟨d - 2, by omega⟩
      rw [if_neg (fun z => c2 ⟨z.2.2.1, z.2.2.2.1⟩), eX11_cost]
      simp (disch := (first | assumption | omega | decide)) only [sX11_cost_0, sX11_cost_1, sX11_cost_2, sX11_cost_5, sX11_cost_6, sX11_cost_7, sX11_cost_10, sX11_cost_13, sX11_cost_14, sX11_cost_15, sX11_cost_16, sX11_cost_19, sX11_cost_22, sX11_cost_25, sX11_cost_26, sX11_cost_27, sX11_cost_28, sX11_cost_31, sX11_cost_34, sX11_cost_37, sX11_cost_38, sX11_cost_39, sX11_cost_40, sX11_cost_41, sX11_cost_44, sX11_cost_47, sX11_cost_48, kI_i, kL_l, kV_v, am_rv_s, am_kl_i, am_kl_r, am_kl_n, am_kl_l, true_and, and_true, and_self, true_or, or_true, implies_true, forall_const, not_true_eq_false, not_false_eq_true, false_implies, true_implies, if_true, if_false, Bool.true_eq_false, Bool.false_eq_true, ob_457, hM0, ha, cd, bz_t, bz_f, i01, c64_0, c64_11, c64_5, m_isIn, i11]
  · have cd := decide_eq_false c
    refine ⟨M0, fun d Q hd => ?_, hb0, f0⟩
    obtain ⟨d', rfl⟩ : ∃ d', d = d' + 2 := ⟨d - 2, by omega⟩
    rw [if_neg (fun z => c ⟨z.1, z.2.1⟩), eX11_cost]
    simp (disch := (first | assumption | omega | decide)) only [sX11_cost_0, sX11_cost_1, sX11_cost_2, sX11_cost_5, sX11_cost_6, sX11_cost_7, sX11_cost_10, sX11_cost_13, sX11_cost_14, sX11_cost_15, sX11_cost_16, sX11_cost_19, sX11_cost_22, sX11_cost_25, sX11_cost_26, sX11_cost_27, sX11_cost_28, sX11_cost_31, sX11_cost_34, sX11_cost_37, sX11_cost_38, sX11_cost_39, sX11_cost_40, sX11_cost_41, sX11_cost_44, sX11_cost_47, sX11_cost_48, kI_i, kL_l, kV_v, am_rv_s, am_kl_i, am_kl_r, am_kl_n, am_kl_l, true_and, and_true, and_self, true_or, or_true, implies_true, forall_const, not_true_eq_false, not_false_eq_true, false_implies, true_implies, if_true, if_false, Bool.true_eq_false, Bool.false_eq_true, ob_457, hM0, ha, cd, bz_f]
end
