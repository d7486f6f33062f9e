/-! which deeds a deed needs, as sets of bits -/
def lacc (l : List Dd) (g : Nat → Nat) (t : Nat) : Nat → Nat
  | 0 => 0
  | e + 1 => lacc l g t e ||| (if lnL l t e = true then 2 ^ e ||| g e else 0)
def bf (l : List Dd) : Nat → Nat → Nat
  | 0, _ => 0
  | f + 1, t => lacc l (bf l f) t t
/-- all that a deed needs, through others too -/
def bl (l : List Dd) (t : Nat) : Nat := bf l (t + 1) t
def drt (l : List Dd) (t : Nat) : Nat → Nat
  | 0 => 0
  | e + 1 => drt l t e ||| (if lnL l t e = true then 2 ^ e else 0)
/-- those among the first n deeds that need deed e -/
def ab (l : List Dd) : Nat → Nat → Nat
  | 0, _ => 0
  | n + 1, e => ab l n e ||| (if (bl l n).testBit e = true then 2 ^ n else 0)
section
variable {l : List Dd} {g g' : Nat → Nat} {t : Nat}
theorem lacc_congr : ∀ {n : Nat}, (∀ e, e < n → g e = g' e) → lacc l g t n = lacc l g' t n
  | 0, _ => rfl
  | n + 1, h => by unfold lacc; rw [lacc_congr (fun e he => h e (by omega)), h n (by omega)]
theorem bf_eq : ∀ (f t : Nat), t < f → bf l f t = bl l t := by
  intro f
  induction f using Nat.strongRecOn with
  | ind f ih =>
    intro t ht
    cases f with
    | zero => omega
    | succ f =>
      show lacc l (bf l f) t t = lacc l (bf l t) t t
      by_cases z : t = f
      · rw [z]
      · refine lacc_congr (fun e he => ?_)
        rw [ih f (by omega) e (by omega), ih t (by omega) e he]
theorem bl_eq (t : Nat) : bl l t = lacc l (bl l) t t := by
  show lacc l (bf l t) t t = _
  exact lacc_congr (fun e he => bf_eq t e he)
theorem lacc_lt : ∀ {n : Nat}, (∀ e, e < n → g e < 2 ^ e) → lacc l g t n < 2 ^ n
  | 0, _ => by simp [lacc]
  | n + 1, h => by
    unfold lacc
    have a : lacc l g t n < 2 ^ n := lacc_lt (fun e he => h e (by omega))
    have b := h n (by omega)
    have p : (2 : Nat) ^ n < 2 ^ (n + 1) := Nat.pow_lt_pow_right (by omega) (by omega)
    refine Nat.or_lt_two_pow (by omega) ?_
    split
    · exact Nat.or_lt_two_pow p (by omega)
    · omega
theorem bl_lt (t : Nat) : bl l t < 2 ^ t := by
  induction t using Nat.strongRecOn with
  | ind t ih => rw [bl_eq]; exact lacc_lt (fun e he => ih e he)
theorem bl_hi {e : Nat} (h : t ≤ e) : (bl l t).testBit e = false := Nat.testBit_lt_two_pow (Nat.lt_of_lt_of_le (bl_lt t) (Nat.pow_le_pow_right (by omega) h))
theorem ab_0 : ∀ {n e : Nat}, n ≤ e + 1 → ab l n e = 0
  | 0, _, _ => rfl
  | n + 1, e, h => by unfold ab; rw [ab_0 (by omega), bl_hi (by omega)]; simp
theorem ab_hi {n e : Nat} (h : n ≤ e) : ab l (n + 1) e = ab l n e := by
  show (ab l n e ||| (if (bl l n).testBit e = true then 2 ^ n else 0)) = _
  rw [bl_hi h]; simp
theorem ab_lt : ∀ {n e : Nat}, ab l n e < 2 ^ n
  | 0, _ => by simp [ab]
  | n + 1, e => by
    unfold ab
    have a : ab l n e < 2 ^ n := ab_lt
    have p : (2 : Nat) ^ n < 2 ^ (n + 1) := Nat.pow_lt_pow_right (by omega) (by omega)
    refine Nat.or_lt_two_pow (by omega) ?_
    split <;> omega
end
theorem sh_mod : ∀ e, e < 32 → ((nI e &&& 31).toBitVec.smod 32) = BitVec.ofNat 32 e := by decide +kernel
theorem nI_shr {b e : Nat} (hb : b < 2 ^ 31) (he : e < 32) : nI b >>> (nI e &&& 31) = nI (b >>> e) := by
  rw [← Int32.toBitVec_inj, Int32.toBitVec_shiftRight, sh_mod e he, BitVec.sshiftRight']
  have m : (nI b).toBitVec.msb = false := by
    rw [BitVec.msb_eq_decide]
    show decide (2 ^ 31 ≤ (BitVec.ofNat 32 b).toNat) = false
    rw [BitVec.toNat_ofNat, Nat.mod_eq_of_lt (by omega)]
    exact decide_eq_false (by omega)
  rw [BitVec.sshiftRight_eq_of_msb_false m]
  apply BitVec.eq_of_toNat_eq
  rw [BitVec.toNat_ushiftRight, BitVec.toNat_ofNat, Nat.mod_eq_of_lt (show e < 2 ^ 32 by omega)]
  show (BitVec.ofNat 32 b).toNat >>> e = (BitVec.ofNat 32 (b >>> e)).toNat
  have : b >>> e ≤ b := by rw [Nat.shiftRight_eq_div_pow]; exact Nat.div_le_self _ _
  rw [BitVec.toNat_ofNat, BitVec.toNat_ofNat, Nat.mod_eq_of_lt (by omega), Nat.mod_eq_of_lt (by omega)]
theorem nI_bit {b e : Nat} (hb : b < 2 ^ 31) (he : e < 32) : (nI b >>> (nI e &&& 31)) &&& 1 = bz (b.testBit e) := by
  rw [nI_shr hb he, show (1 : Int32) = nI 1 from rfl, nI_and]
  unfold Nat.testBit
  rw [Nat.and_comm 1]
  have h := Nat.and_one_is_mod (b >>> e)
  rw [h]
  rcases Nat.mod_two_eq_zero_or_one (b >>> e) with z | z <;> rw [z] <;> rfl
theorem bz_shl : ∀ k, k < 16 → ∀ b : Bool, bz b <<< (nI k &&& 31) = nI (if b = true then 2 ^ k else 0) := by decide +kernel
section
variable {M N : am_M} {ap lim n : Nat} {S : Sg} {P : List Sg} {l : List Dd} {d : Nat} {Q : am_Q}
theorem fl_s {a L : Nat} {f : Nat → Int32} {v : Int32} (h : f L = v) : sI (fl M a L f) a L v = fl M a (L + 1) f := M_ext (fun b k => by
  rw [gI_sI, gI_fl', gI_fl']
  by_cases z : b = a ∧ k = L
  · rw [if_pos z, if_pos (by omega), z.2, h]
  · rw [if_neg z]
    by_cases z2 : b = a ∧ k < L
    · rw [if_pos z2, if_pos (by omega)]
    · rw [if_neg z2, if_neg (by omega)]) (fun _ _ => rfl) (fun _ _ => rfl)
theorem fl_0 {a : Nat} {f : Nat → Int32} : fl M a 0 f = M := fl_id (fun k hk => absurd hk (Nat.not_lt_zero k))
/-- two rows filled -/
def f2 (M : am_M) (a b n : Nat) (f g : Nat → Int32) : am_M := fl (fl M a n f) b n g
section
variable {a b c k : Nat} {f g f' g' : Nat → Int32} {v w : Int32}
theorem f2_o (h1 : c ≠ a) (h2 : c ≠ b) : gI (f2 M a b n f g) c k = gI M c k := by unfold f2; rw [gI_fn h2, gI_fn h1]
theorem f2_a (h : k < n) (h2 : a ≠ b) : gI (f2 M a b n f g) a k = f k := by unfold f2; rw [gI_fn h2, gI_fl h]
theorem f2_b (h : k < n) : gI (f2 M a b n f g) b k = g k := by unfold f2; rw [gI_fl h]
theorem f2_R : gR (f2 M a b n f g) c k = gR M c k := rfl
theorem f2_c (h : ∀ k, k < n → f k = f' k ∧ g k = g' k) : f2 M a b n f g = f2 M a b n f' g' := by unfold f2; rw [fl_congr (fun k hk => (h k hk).1), fl_congr (a := b) (fun k hk => (h k hk).2)]
theorem f2_sa (h : k < n) (h2 : a ≠ b) (hf : ∀ i, i < n → (if i = k then v else f i) = f' i) : sI (f2 M a b n f g) a k v = f2 M a b n f' g := by unfold f2; rw [sI_flc h2, sI_fl h, fl_congr hf]
theorem f2_sb (h : k < n) (hg : ∀ i, i < n → (if i = k then v else g i) = g' i) : sI (f2 M a b n f g) b k v = f2 M a b n f g' := by unfold f2; rw [sI_fl h, fl_congr hg]
theorem f2_s (h2 : a ≠ b) (hf : ∀ i, i < n → f i = f' i) (hg : ∀ i, i < n → g i = g' i) (h3 : f' n = v) (h4 : g' n = w) : sI (sI (f2 M a b n f g) a n v) b n w = f2 M a b (n + 1) f' g' := by
  unfold f2
  rw [sI_flc h2, fl_congr (a := a) hf, fl_s h3, fl_congr (a := b) hg, fl_s h4]
end
theorem c_lean {k e : Nat} (hL : LH N 4 l) (hl : l.length ≤ 12) (hk : k < l.length) (he : e < k) : am_big (d + 1) mX0_leansOn [.ref 4, .int (nI k), .int (nI e)] 488 N Q = Q (some (.int (bz (lnL l k e)))) N := by
  rw [c_leansOn hL.1.1 (by omega) (by omega), decide_eq_true he, Bool.true_and]
  have : lnn (gI N (4 + 1)) (gI N (4 + 2)) (gI N (4 + 3)) k e = lnL l k e := by
    unfold lnL lnn
    rw [(LH_s hL k hk).1, (LH_s hL k hk).2, LH_x hL k hk, (LH_s hL e (by omega)).1, (LH_s hL e (by omega)).2]
  rw [this]
def lk0 (M : am_M) (n : Nat) : am_M := sI (sR M 424 0 (some 4)) 424 1 (nI n)
def lkM (M : am_M) (l : List Dd) : am_M := f2 (lk0 M l.length) 429 430 l.length (fun e => nI (bl l e)) (fun e => nI (ab l l.length e))
theorem c_look (hW : WR M) (hL : LH M 4 l) (hl : l.length ≤ 12) : am_big (d + 2) mX5_look [.ref 424, .ref 4] 488 M Q = Q none (lkM M l) := by
  have g43 : gI M 4 3 = nI l.length := hL.1.2.1
  have w0 : WR (lk0 M l.length) := (Fw.r (X := fun c j => c = 424 ∧ j = 0) (M := M) (v := some 4) ⟨rfl, rfl⟩ rfl).2 hW
  have L0 : LH (lk0 M l.length) 4 l := LH_of (M := M) (fun c j a b => by unfold lk0; rw [gI_o (by omega)]; rfl) (fun c j a b => by unfold lk0; rw [gR_sI, gR_o (by omega)]) hL
  have s0 : gI (lk0 M l.length) 424 1 = nI l.length := gI_e
  unfold lkM
  generalize hM0 : lk0 M l.length = M0 at *
  have em : (if (12 : Int32) < nI l.length then 12 else nI l.length) = nI l.length := by
    rw [if_neg]
    rw [show (12 : Int32) = nI 12 from rfl, nI_ltE (by omega) (by omega)]; omega
  have io : ∀ {k n f g}, gI (f2 M0 429 430 n f g) 424 k = gI M0 424 k := fun {k n f g} => f2_o (by omega) (by omega)
  have wf : ∀ {n f g}, WR (f2 M0 429 430 n f g) := fun {n f g} => w0
  have Lf : ∀ {n f g}, LH (f2 M0 429 430 n f g) 4 l := fun {n f g} => LH_of (M := M0) (fun c j a b => f2_o (by omega) (by omega)) (fun _ _ _ _ => rfl) L0
  have in1 : ∀ k, k < l.length → ok (d + 1) mX5_look 488 Q 488 0 0 44 [some (.ref 424), some (.ref 4), some (.int (nI k)), some (.int (nI 0))] [] (f2 M0 429 430 (k + 1) (fun i => nI (if i = k then lacc l (bl l) k 0 else bl l i)) (fun i => nI (ab l k i))) = ok (d + 1) mX5_look 488 Q 488 0 0 44 [some (.ref 424), some (.ref 4), some (.int (nI k)), some (.int (nI k))] [] (f2 M0 429 430 (k + 1) (fun i => nI (if i = k then lacc l (bl l) k k else bl l i)) (fun i => nI (ab l k i))) := fun k hk =>
    loop0 (P := fun e => ok (d + 1) mX5_look 488 Q 488 0 0 44 [some (.ref 424), some (.ref 4), some (.int (nI k)), some (.int (nI e))] [] (f2 M0 429 430 (k + 1) (fun i => nI (if i = k then lacc l (bl l) k e else bl l i)) (fun i => nI (ab l k i)))) (n := k) (fun e he => by
      show ok (d + 1) mX5_look 488 Q 488 0 0 44 _ [] _ = ok (d + 1) mX5_look 488 Q 488 0 0 44 _ [] _
      have e0 : (nI k ≤ nI e) = False := by rw [nI_leE (by omega) (by omega)]; exact eq_false (by omega)
      have ga : gI (f2 M0 429 430 (k + 1) (fun i => nI (if i = k then lacc l (bl l) k e else bl l i)) (fun i => nI (ab l k i))) 429 k = nI (lacc l (bl l) k e) := by rw [f2_a (by omega) (by omega), if_pos rfl]
      have gb : gI (f2 M0 429 430 (k + 1) (fun i => nI (if i = k then lacc l (bl l) k e else bl l i)) (fun i => nI (ab l k i))) 429 e = nI (bl l e) := by rw [f2_a (by omega) (by omega), if_neg (by omega)]
      have cl := fun d (Q : am_Q) => c_lean (d := d) (Q := Q) (Lf (n := k + 1) (f := fun i => nI (if i = k then lacc l (bl l) k e else bl l i)) (g := fun i => nI (ab l k i))) hl hk he
      have kc : (nI k).toNatClampNeg = k := nI_clamp (by omega)
      have ec : (nI e).toNatClampNeg = e := nI_clamp (by omega)
      rw [sX5_look_44]
      cases c : lnL l k e with
      | false =>
        have sw : lacc l (bl l) k (e + 1) = lacc l (bl l) k e := by
          show (lacc l (bl l) k e ||| (if lnL l k e = true then 2 ^ e ||| bl l e else 0)) = _
          rw [c]; simp
        simp (disch := (first | assumption | omega | decide)) only [sX5_look_0, sX5_look_1, sX5_look_2, sX5_look_5, sX5_look_6, sX5_look_7, sX5_look_10, sX5_look_12, sX5_look_15, sX5_look_18, sX5_look_19, sX5_look_21, sX5_look_22, sX5_look_25, sX5_look_28, sX5_look_29, sX5_look_32, sX5_look_33, sX5_look_34, sX5_look_35, sX5_look_36, sX5_look_39, sX5_look_40, sX5_look_41, sX5_look_42, sX5_look_43, sX5_look_45, sX5_look_46, sX5_look_49, sX5_look_50, sX5_look_51, sX5_look_52, sX5_look_55, sX5_look_58, sX5_look_59, sX5_look_62, sX5_look_63, sX5_look_64, sX5_look_65, sX5_look_66, sX5_look_67, sX5_look_68, sX5_look_69, sX5_look_72, sX5_look_73, sX5_look_74, sX5_look_75, sX5_look_76, sX5_look_77, sX5_look_80, sX5_look_83, sX5_look_84, sX5_look_86, sX5_look_87, sX5_look_90, sX5_look_91, sX5_look_94, sX5_look_95, sX5_look_96, sX5_look_97, sX5_look_98, sX5_look_101, sX5_look_102, sX5_look_103, sX5_look_104, sX5_look_105, sX5_look_106, sX5_look_107, sX5_look_108, sX5_look_109, sX5_look_110, sX5_look_111, sX5_look_114, sX5_look_117, sX5_look_120, sX5_look_123, kI_i, kL_l, kV_v, am_rv_s, am_kl_i, am_kl_r, am_kl_n, am_kl_l, true_and, and_true, and_self, true_or, or_true, implies_true, forall_const, not_true_eq_false, not_false_eq_true, false_implies, true_implies, if_true, if_false, Bool.true_eq_false, Bool.false_eq_true, ob_4, e0, cl, c, bz_f, nI_1, sw]
      | true =>
        have sw : sI (f2 M0 429 430 (k + 1) (fun i => nI (if i = k then lacc l (bl l) k e else bl l i)) (fun i => nI (ab l k i))) 429 k (nI (lacc l (bl l) k e ||| (2 ^ e ||| bl l e))) = f2 M0 429 430 (k + 1) (fun i => nI (if i = k then lacc l (bl l) k (e + 1) else bl l i)) (fun i => nI (ab l k i)) := f2_sa (by omega) (by omega) (fun i hi => by
          by_cases z : i = k
          · rw [if_pos z, if_pos z]
            show _ = nI (lacc l (bl l) k e ||| _)
            rw [if_pos c]
          · rw [if_neg z, if_neg z, if_neg z])
        simp (disch := (first | assumption | omega | decide)) only [sX5_look_0, sX5_look_1, sX5_look_2, sX5_look_5, sX5_look_6, sX5_look_7, sX5_look_10, sX5_look_12, sX5_look_15, sX5_look_18, sX5_look_19, sX5_look_21, sX5_look_22, sX5_look_25, sX5_look_28, sX5_look_29, sX5_look_32, sX5_look_33, sX5_look_34, sX5_look_35, sX5_look_36, sX5_look_39, sX5_look_40, sX5_look_41, sX5_look_42, sX5_look_43, sX5_look_45, sX5_look_46, sX5_look_49, sX5_look_50, sX5_look_51, sX5_look_52, sX5_look_55, sX5_look_58, sX5_look_59, sX5_look_62, sX5_look_63, sX5_look_64, sX5_look_65, sX5_look_66, sX5_look_67, sX5_look_68, sX5_look_69, sX5_look_72, sX5_look_73, sX5_look_74, sX5_look_75, sX5_look_76, sX5_look_77, sX5_look_80, sX5_look_83, sX5_look_84, sX5_look_86, sX5_look_87, sX5_look_90, sX5_look_91, sX5_look_94, sX5_look_95, sX5_look_96, sX5_look_97, sX5_look_98, sX5_look_101, sX5_look_102, sX5_look_103, sX5_look_104, sX5_look_105, sX5_look_106, sX5_look_107, sX5_look_108, sX5_look_109, sX5_look_110, sX5_look_111, sX5_look_114, sX5_look_117, sX5_look_120, sX5_look_123, kI_i, kL_l, kV_v, am_rv_s, am_kl_i, am_kl_r, am_kl_n, am_kl_l, true_and, and_true, and_self, true_or, or_true, implies_true, forall_const, not_true_eq_false, not_false_eq_true, false_implies, true_implies, if_true, if_false, Bool.true_eq_false, Bool.false_eq_true, ob_4, ob_424, e0, cl, c, bz_t, i01, f2_R, r_424_2, in_429 (show k < 12 by omega), in_429 (show e < 12 by omega), iw_429 (show k < 12 by omega), kc, ec, ga, gb, shl1 e (by omega), nI_or, sw, nI_1])
  have in2 : ∀ k, k < l.length → ok (d + 1) mX5_look 488 Q 488 0 0 85 [some (.ref 424), some (.ref 4), some (.int (nI k)), some (.int (nI 0))] [] (f2 M0 429 430 (k + 1) (fun i => nI (bl l i)) (fun i => nI (if i < 0 then ab l (k + 1) i else ab l k i))) = ok (d + 1) mX5_look 488 Q 488 0 0 85 [some (.ref 424), some (.ref 4), some (.int (nI k)), some (.int (nI k))] [] (f2 M0 429 430 (k + 1) (fun i => nI (bl l i)) (fun i => nI (if i < k then ab l (k + 1) i else ab l k i))) := fun k hk =>
    loop0 (P := fun e => ok (d + 1) mX5_look 488 Q 488 0 0 85 [some (.ref 424), some (.ref 4), some (.int (nI k)), some (.int (nI e))] [] (f2 M0 429 430 (k + 1) (fun i => nI (bl l i)) (fun i => nI (if i < e then ab l (k + 1) i else ab l k i)))) (n := k) (fun e he => by
      show ok (d + 1) mX5_look 488 Q 488 0 0 85 _ [] _ = ok (d + 1) mX5_look 488 Q 488 0 0 85 _ [] _
      have e0 : (nI k ≤ nI e) = False := by rw [nI_leE (by omega) (by omega)]; exact eq_false (by omega)
      have ga : gI (f2 M0 429 430 (k + 1) (fun i => nI (bl l i)) (fun i => nI (if i < e then ab l (k + 1) i else ab l k i))) 430 e = nI (ab l k e) := by rw [f2_b (by omega), if_neg (by omega)]
      have gb : gI (f2 M0 429 430 (k + 1) (fun i => nI (bl l i)) (fun i => nI (if i < e then ab l (k + 1) i else ab l k i))) 429 k = nI (bl l k) := by rw [f2_a (by omega) (by omega)]
      have kc : (nI k).toNatClampNeg = k := nI_clamp (by omega)
      have ec : (nI e).toNatClampNeg = e := nI_clamp (by omega)
      have hb : bl l k < 2 ^ 31 := Nat.lt_of_lt_of_le (bl_lt k) (Nat.pow_le_pow_right (by omega) (by omega))
      have sw : sI (f2 M0 429 430 (k + 1) (fun i => nI (bl l i)) (fun i => nI (if i < e then ab l (k + 1) i else ab l k i))) 430 e (nI (ab l k e ||| (if (bl l k).testBit e = true then 2 ^ k else 0))) = f2 M0 429 430 (k + 1) (fun i => nI (bl l i)) (fun i => nI (if i < e + 1 then ab l (k + 1) i else ab l k i)) := f2_sb (by omega) (fun i hi => by
        by_cases z : i = e
        · rw [if_pos z, z, if_pos (show e < e + 1 by omega)]; rfl
        · rw [if_neg z]
          by_cases z2 : i < e
          · rw [if_pos z2, if_pos (by omega)]
          · rw [if_neg z2, if_neg (by omega)])
      rw [sX5_look_85]
      simp (disch := (first | assumption | omega | decide)) only [sX5_look_0, sX5_look_1, sX5_look_2, sX5_look_5, sX5_look_6, sX5_look_7, sX5_look_10, sX5_look_12, sX5_look_15, sX5_look_18, sX5_look_19, sX5_look_21, sX5_look_22, sX5_look_25, sX5_look_28, sX5_look_29, sX5_look_32, sX5_look_33, sX5_look_34, sX5_look_35, sX5_look_36, sX5_look_39, sX5_look_40, sX5_look_41, sX5_look_42, sX5_look_43, sX5_look_45, sX5_look_46, sX5_look_49, sX5_look_50, sX5_look_51, sX5_look_52, sX5_look_55, sX5_look_58, sX5_look_59, sX5_look_62, sX5_look_63, sX5_look_64, sX5_look_65, sX5_look_66, sX5_look_67, sX5_look_68, sX5_look_69, sX5_look_72, sX5_look_73, sX5_look_74, sX5_look_75, sX5_look_76, sX5_look_77, sX5_look_80, sX5_look_83, sX5_look_84, sX5_look_86, sX5_look_87, sX5_look_90, sX5_look_91, sX5_look_94, sX5_look_95, sX5_look_96, sX5_look_97, sX5_look_98, sX5_look_101, sX5_look_102, sX5_look_103, sX5_look_104, sX5_look_105, sX5_look_106, sX5_look_107, sX5_look_108, sX5_look_109, sX5_look_110, sX5_look_111, sX5_look_114, sX5_look_117, sX5_look_120, sX5_look_123, kI_i, kL_l, kV_v, am_rv_s, am_kl_i, am_kl_r, am_kl_n, am_kl_l, true_and, and_true, and_self, true_or, or_true, implies_true, forall_const, not_true_eq_false, not_false_eq_true, false_implies, true_implies, if_true, if_false, Bool.true_eq_false, Bool.false_eq_true, ob_424, e0, f2_R, r_424_2, r_424_3, in_429 (show k < 12 by omega), in_430 (show e < 12 by omega), iw_430 (show e < 12 by omega), kc, ec, ga, gb, nI_bit hb (show e < 32 by omega), bz_shl k (by omega), nI_or, sw, nI_1])
  have key : ∀ j k (x3 : Option Value), k + j = l.length → ok (d + 1) mX5_look 488 Q 488 0 0 20 [some (.ref 424), some (.ref 4), some (.int (nI k)), x3] [] (f2 M0 429 430 k (fun i => nI (bl l i)) (fun i => nI (ab l k i))) = Q none (f2 M0 429 430 l.length (fun i => nI (bl l i)) (fun i => nI (ab l l.length i))) := by
    intro j
    induction j with
    | zero =>
      intro k x3 hk
      have hk : k = l.length := by omega
      subst hk
      rw [sX5_look_20]
      simp (disch := (first | assumption | omega | decide)) only [sX5_look_0, sX5_look_1, sX5_look_2, sX5_look_5, sX5_look_6, sX5_look_7, sX5_look_10, sX5_look_12, sX5_look_15, sX5_look_18, sX5_look_19, sX5_look_21, sX5_look_22, sX5_look_25, sX5_look_28, sX5_look_29, sX5_look_32, sX5_look_33, sX5_look_34, sX5_look_35, sX5_look_36, sX5_look_39, sX5_look_40, sX5_look_41, sX5_look_42, sX5_look_43, sX5_look_45, sX5_look_46, sX5_look_49, sX5_look_50, sX5_look_51, sX5_look_52, sX5_look_55, sX5_look_58, sX5_look_59, sX5_look_62, sX5_look_63, sX5_look_64, sX5_look_65, sX5_look_66, sX5_look_67, sX5_look_68, sX5_look_69, sX5_look_72, sX5_look_73, sX5_look_74, sX5_look_75, sX5_look_76, sX5_look_77, sX5_look_80, sX5_look_83, sX5_look_84, sX5_look_86, sX5_look_87, sX5_look_90, sX5_look_91, sX5_look_94, sX5_look_95, sX5_look_96, sX5_look_97, sX5_look_98, sX5_look_101, sX5_look_102, sX5_look_103, sX5_look_104, sX5_look_105, sX5_look_106, sX5_look_107, sX5_look_108, sX5_look_109, sX5_look_110, sX5_look_111, sX5_look_114, sX5_look_117, sX5_look_120, sX5_look_123, kI_i, kL_l, kV_v, am_rv_s, am_kl_i, am_kl_r, am_kl_n, am_kl_l, true_and, and_true, and_self, true_or, or_true, implies_true, forall_const, not_true_eq_false, not_false_eq_true, false_implies, true_implies, if_true, if_false, Bool.true_eq_false, Bool.false_eq_true, ob_424, io, s0, Int32.le_refl]
    | succ j ih =>
      intro k x3 hk
      have e0 : (nI l.length ≤ nI k) = False := by rw [nI_leE (by omega) (by omega)]; exact eq_false (by omega)
      have kc : (nI k).toNatClampNeg = k := nI_clamp (by omega)
      have sw : sI (sI (f2 M0 429 430 k (fun i => nI (bl l i)) (fun i => nI (ab l k i))) 429 k 0) 430 k 0 = f2 M0 429 430 (k + 1) (fun i => nI (if i = k then lacc l (bl l) k 0 else bl l i)) (fun i => nI (ab l k i)) := f2_s (by omega) (fun i hi => by rw [if_neg (by omega)]) (fun i hi => rfl) (by rw [if_pos rfl]; rfl) (by show nI (ab l k k) = 0; rw [ab_0 (by omega)]; rfl)
      have sw1 : f2 M0 429 430 (k + 1) (fun i => nI (if i = k then lacc l (bl l) k k else bl l i)) (fun i => nI (ab l k i)) = f2 M0 429 430 (k + 1) (fun i => nI (bl l i)) (fun i => nI (if i < 0 then ab l (k + 1) i else ab l k i)) := f2_c (fun i hi => ⟨by
          by_cases z : i = k
          · rw [if_pos z, z, ← bl_eq]
          · rw [if_neg z], by rw [if_neg (by omega)]⟩)
      have sw2 : f2 M0 429 430 (k + 1) (fun i => nI (bl l i)) (fun i => nI (if i < k then ab l (k + 1) i else ab l k i)) = f2 M0 429 430 (k + 1) (fun i => nI (bl l i)) (fun i => nI (ab l (k + 1) i)) := f2_c (fun i hi => ⟨rfl, by
          by_cases z : i < k
          · rw [if_pos z]
          · rw [if_neg z, ab_hi (by omega)]⟩)
      have i1 : ok (d + 1) mX5_look 488 Q 488 0 0 44 [some (.ref 424), some (.ref 4), some (.int (nI k)), some (.int 0)] [] _ = _ := in1 k (by omega)
      have i2 : ok (d + 1) mX5_look 488 Q 488 0 0 85 [some (.ref 424), some (.ref 4), some (.int (nI k)), some (.int 0)] [] _ = _ := in2 k (by omega)
      have ih := ih (k + 1) (some (.int (nI k))) (by omega)
      rw [sX5_look_20]
      simp (disch := (first | assumption | omega | decide)) only [sX5_look_0, sX5_look_1, sX5_look_2, sX5_look_5, sX5_look_6, sX5_look_7, sX5_look_10, sX5_look_12, sX5_look_15, sX5_look_18, sX5_look_19, sX5_look_21, sX5_look_22, sX5_look_25, sX5_look_28, sX5_look_29, sX5_look_32, sX5_look_33, sX5_look_34, sX5_look_35, sX5_look_36, sX5_look_39, sX5_look_40, sX5_look_41, sX5_look_42, sX5_look_43, sX5_look_45, sX5_look_46, sX5_look_49, sX5_look_50, sX5_look_51, sX5_look_52, sX5_look_55, sX5_look_58, sX5_look_59, sX5_look_62, sX5_look_63, sX5_look_64, sX5_look_65, sX5_look_66, sX5_look_67, sX5_look_68, sX5_look_69, sX5_look_72, sX5_look_73, sX5_look_74, sX5_look_75, sX5_look_76, sX5_look_77, sX5_look_80, sX5_look_83, sX5_look_84, sX5_look_86, sX5_look_87, sX5_look_90, sX5_look_91, sX5_look_94, sX5_look_95, sX5_look_96, sX5_look_97, sX5_look_98, sX5_look_101, sX5_look_102, sX5_look_103, sX5_look_104, sX5_look_105, sX5_look_106, sX5_look_107, sX5_look_108, sX5_look_109, sX5_look_110, sX5_look_111, sX5_look_114, sX5_look_117, sX5_look_120, sX5_look_123, kI_i, kL_l, kV_v, am_rv_s, am_kl_i, am_kl_r, am_kl_n, am_kl_l, true_and, and_true, and_self, true_or, or_true, implies_true, forall_const, not_true_eq_false, not_false_eq_true, false_implies, true_implies, if_true, if_false, Bool.true_eq_false, Bool.false_eq_true, ob_424, io, s0, e0, f2_R, gR_sI, r_424_2, r_424_3, iw_429 (show k < 12 by omega), iw_430 (show k < 12 by omega), kc, sw, i1]
      rw [sX5_look_44]
      simp (disch := (first | assumption | omega | decide)) only [sX5_look_0, sX5_look_1, sX5_look_2, sX5_look_5, sX5_look_6, sX5_look_7, sX5_look_10, sX5_look_12, sX5_look_15, sX5_look_18, sX5_look_19, sX5_look_21, sX5_look_22, sX5_look_25, sX5_look_28, sX5_look_29, sX5_look_32, sX5_look_33, sX5_look_34, sX5_look_35, sX5_look_36, sX5_look_39, sX5_look_40, sX5_look_41, sX5_look_42, sX5_look_43, sX5_look_45, sX5_look_46, sX5_look_49, sX5_look_50, sX5_look_51, sX5_look_52, sX5_look_55, sX5_look_58, sX5_look_59, sX5_look_62, sX5_look_63, sX5_look_64, sX5_look_65, sX5_look_66, sX5_look_67, sX5_look_68, sX5_look_69, sX5_look_72, sX5_look_73, sX5_look_74, sX5_look_75, sX5_look_76, sX5_look_77, sX5_look_80, sX5_look_83, sX5_look_84, sX5_look_86, sX5_look_87, sX5_look_90, sX5_look_91, sX5_look_94, sX5_look_95, sX5_look_96, sX5_look_97, sX5_look_98, sX5_look_101, sX5_look_102, sX5_look_103, sX5_look_104, sX5_look_105, sX5_look_106, sX5_look_107, sX5_look_108, sX5_look_109, sX5_look_110, sX5_look_111, sX5_look_114, sX5_look_117, sX5_look_120, sX5_look_123, kI_i, kL_l, kV_v, am_rv_s, am_kl_i, am_kl_r, am_kl_n, am_kl_l, true_and, and_true, and_self, true_or, or_true, implies_true, forall_const, not_true_eq_false, not_false_eq_true, false_implies, true_implies, if_true, if_false, Bool.true_eq_false, Bool.false_eq_true, Int32.le_refl, sw1, i2]
      rw [sX5_look_85]
      simp (disch := (first | assumption | omega | decide)) only [sX5_look_0, sX5_look_1, sX5_look_2, sX5_look_5, sX5_look_6, sX5_look_7, sX5_look_10, sX5_look_12, sX5_look_15, sX5_look_18, sX5_look_19, sX5_look_21, sX5_look_22, sX5_look_25, sX5_look_28, sX5_look_29, sX5_look_32, sX5_look_33, sX5_look_34, sX5_look_35, sX5_look_36, sX5_look_39, sX5_look_40, sX5_look_41, sX5_look_42, sX5_look_43, sX5_look_45, sX5_look_46, sX5_look_49, sX5_look_50, sX5_look_51, sX5_look_52, sX5_look_55, sX5_look_58, sX5_look_59, sX5_look_62, sX5_look_63, sX5_look_64, sX5_look_65, sX5_look_66, sX5_look_67, sX5_look_68, sX5_look_69, sX5_look_72, sX5_look_73, sX5_look_74, sX5_look_75, sX5_look_76, sX5_look_77, sX5_look_80, sX5_look_83, sX5_look_84, sX5_look_86, sX5_look_87, sX5_look_90, sX5_look_91, sX5_look_94, sX5_look_95, sX5_look_96, sX5_look_97, sX5_look_98, sX5_look_101, sX5_look_102, sX5_look_103, sX5_look_104, sX5_look_105, sX5_look_106, sX5_look_107, sX5_look_108, sX5_look_109, sX5_look_110, sX5_look_111, sX5_look_114, sX5_look_117, sX5_look_120, sX5_look_123, kI_i, kL_l, kV_v, am_rv_s, am_kl_i, am_kl_r, am_kl_n, am_kl_l, true_and, and_true, and_self, true_or, or_true, implies_true, forall_const, not_true_eq_false, not_false_eq_true, false_implies, true_implies, if_true, if_false, Bool.true_eq_false, Bool.false_eq_true, Int32.le_refl, sw2, nI_1, ih]
  have k0 := key l.length 0 none (by omega)
  have z0 : f2 M0 429 430 0 (fun i => nI (bl l i)) (fun i => nI (ab l 0 i)) = M0 := by unfold f2; rw [fl_0, fl_0]
  rw [z0] at k0
  have k1 : ok (d + 1) mX5_look 488 Q 488 0 0 20 [some (.ref 424), some (.ref 4), some (.int 0), none] [] M0 = _ := k0
  rw [eX5_look]
  have hM0' : sI (sR M 424 0 (some 4)) 424 1 (nI l.length) = M0 := hM0
  simp (disch := (first | assumption | omega | decide)) only [sX5_look_0, sX5_look_1, sX5_look_2, sX5_look_5, sX5_look_6, sX5_look_7, sX5_look_10, sX5_look_12, sX5_look_15, sX5_look_18, sX5_look_19, sX5_look_21, sX5_look_22, sX5_look_25, sX5_look_28, sX5_look_29, sX5_look_32, sX5_look_33, sX5_look_34, sX5_look_35, sX5_look_36, sX5_look_39, sX5_look_40, sX5_look_41, sX5_look_42, sX5_look_43, sX5_look_45, sX5_look_46, sX5_look_49, sX5_look_50, sX5_look_51, sX5_look_52, sX5_look_55, sX5_look_58, sX5_look_59, sX5_look_62, sX5_look_63, sX5_look_64, sX5_look_65, sX5_look_66, sX5_look_67, sX5_look_68, sX5_look_69, sX5_look_72, sX5_look_73, sX5_look_74, sX5_look_75, sX5_look_76, sX5_look_77, sX5_look_80, sX5_look_83, sX5_look_84, sX5_look_86, sX5_look_87, sX5_look_90, sX5_look_91, sX5_look_94, sX5_look_95, sX5_look_96, sX5_look_97, sX5_look_98, sX5_look_101, sX5_look_102, sX5_look_103, sX5_look_104, sX5_look_105, sX5_look_106, sX5_look_107, sX5_look_108, sX5_look_109, sX5_look_110, sX5_look_111, sX5_look_114, sX5_look_117, sX5_look_120, sX5_look_123, kI_i, kL_l, kV_v, am_rv_s, am_kl_i, am_kl_r, am_kl_n, am_kl_l, true_and, and_true, and_self, true_or, or_true, implies_true, forall_const, not_true_eq_false, not_false_eq_true, false_implies, true_implies, if_true, if_false, Bool.true_eq_false, Bool.false_eq_true, ob_4, ob_424, gI_sR, g43, em, hM0', k1]
end
