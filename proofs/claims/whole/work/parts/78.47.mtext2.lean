section
variable {T : Nat → Int32} {len : Nat}
theorem wks_le : ∀ (j p : Nat) (l : List Ap) (ru : Bool) (lim : Int32), p ≤ len → (wks T len j p l ru lim).2.2.2 ≤ len
  | 0, p, l, ru, lim, hp => hp
  | j + 1, p, l, ru, lim, hp => by
    have hs := skp_le' (T := T) hp
    have aft : ∀ (q : Nat) (l : List Ap) (ru : Bool) (lim : Int32), q ≤ len → (if sg T len (skp T len q) = -1 then (decide (0 < l.length), l, lim, skp T len q) else if sg T len (skp T len q) = 59 then wks T len j (skp T len q + 1) l ru lim else (false, l, lim, skp T len q)).2.2.2 ≤ len := by
      intro q l ru lim hq
      have hs := skp_le' (T := T) hq
      split
      · exact hs
      · split
        · rename_i z
          have := sg_lt z (by decide)
          exact wks_le j _ l ru lim (by omega)
        · exact hs
    by_cases c1 : sg T len (skp T len p) = 115 ∧ ru = false
    · rw [wks_r c1]
      have hlt := sg_lt c1.1 (by decide)
      have hw := wrul_le (T := T) (lim := lim) (len := len) (p := skp T len p + 1) (by omega)
      split
      · exact hw
      · exact aft _ _ _ _ hw
    · by_cases c2 : sg T len (skp T len p) = 97 ∧ l.length < 4
      · rw [wks_a c1 c2]
        have hlt := sg_lt c2.1 (by decide)
        have hw := wapp_le (T := T) (len := len) (p := skp T len p + 1) (by omega)
        split
        · exact hw
        · exact aft _ _ _ _ hw
      · rw [wks_n c1 c2]
        exact hs
theorem pln_le : ∀ (j p : Nat) (l : List Dd), p ≤ len → (pln T len j p l).2.2 ≤ len
  | 0, p, l, hp => hp
  | j + 1, p, l, hp => by
    have h1 := pdd_le (T := T) hp
    have hs := skp_le' (T := T) h1
    rw [pln_s]
    split
    · exact h1
    · split
      · exact hs
      · split
        · exact hs
        · split
          · rename_i z
            have := sg_lt z (by decide)
            exact pln_le j _ _ (by omega)
          · exact hs
theorem lawP_le : ∀ (j p : Nat) (cs : List Cl), p ≤ len → (lawP T len j p cs).2.1 ≤ len
  | 0, p, cs, hp => hp
  | j + 1, p, cs, hp => by
    have h1 := (cla_le (T := T) hp).1
    have hs := skp_le' (T := T) h1
    unfold lawP
    split
    · split
      · exact hs
      · split
        · rename_i z
          have := sg_lt z (by decide)
          exact lawP_le j _ _ (by omega)
        · exact hs
    · exact h1
end
section
variable {M N : am_M} {ap lim : Nat} {S : Sg} {P : List Sg} {im : Option Sg} {tp : List Nat} {d : Nat} {Q : am_Q} {LL : List (List Nat)} {h : Int32} {PL : List (List Dd)}
theorem fz {so : Int32} (hl : tp.length ≤ 240) (z : faultA tp so = -1) : (wkT tp).1 = true ∧ so = 0 ∨ (lwT tp).1 = true ∧ so = 1 ∨ (plT tp).1 = true ∧ so = 2 := by
  have ne : ∀ p, p ≤ tp.length → ¬ nI p = -1 := fun p hp w => by
    have := nI_m1 (k := p) (by omega)
    rw [w] at this
    simp at this
  unfold faultA at z
  by_cases c0 : so = 0
  · rw [if_pos c0] at z
    cases w : (wkT tp).1 with
    | true => exact Or.inl ⟨rfl, c0⟩
    | false => rw [w, if_neg (by decide)] at z; exact absurd z (ne _ (wks_le 6 0 [] false 12 (Nat.zero_le _)))
  · rw [if_neg c0] at z
    by_cases c1 : so = 1
    · rw [if_pos c1] at z
      cases w : (lwT tp).1 with
      | true => exact Or.inr (Or.inl ⟨rfl, c1⟩)
      | false => rw [w, if_neg (by decide)] at z; exact absurd z (ne _ (lawP_le 240 0 [] (Nat.zero_le _)))
    · rw [if_neg c1] at z
      by_cases c2 : so = 2
      · rw [if_pos c2] at z
        cases w : (plT tp).1 with
        | true => exact Or.inr (Or.inr ⟨rfl, c2⟩)
        | false => rw [w, if_neg (by decide)] at z; exact absurd z (ne _ (pln_le 16 0 [] (Nat.zero_le _)))
      · rw [if_neg c2] at z; exact absurd z (by decide)
/-- the places of a state behind a workshop's text: k apprentices laid -/
def nwF (l : List Ap) (k j : Nat) : Int32 := if 37 ≤ j ∧ j < 37 + k then (l.getD (j - 37) (0, 0)).1 else if j = 41 then nI (rbF l k) else 0
def XM0 (c j : Nat) : Prop := XFm c j ∨ c = 465 ∨ (c = 457 ∧ (j = 6 ∨ j = 21 ∨ j = 23 ∨ j = 41 ∨ j = 52 ∨ j = 54))
theorem shl_01 {v : Int32} {k : Nat} (hv : v = 0 ∨ v = 1) (hk : k < 4) : v <<< (nI k &&& 31) = nI (if v = 1 then 2 ^ k else 0) := by
  rcases hv with rfl | rfl
  · rw [if_neg (by decide)]
    exact (by decide +kernel : ∀ k, k < 4 → (0 : Int32) <<< (nI k &&& 31) = nI 0) k hk
  · rw [if_pos rfl]
    exact shl1 k (by omega)
theorem m_text0 (hd : 33 ≤ d) (hW : WR M) (ht : TM M tp) (hk : tpK tp) (hok : (wkT tp).1 = true) : ∃ M', (∀ (Q : am_Q), am_big d mX11_text [.ref 457, .int 0] 488 M Q = Q (some (.int (nI (wkT tp).2.1.length))) M') ∧ TM M' [] ∧ StM M' 465 0 (wkT tp).2.1.length (sgT (wkT tp).2.1) ∧ PaM M' (wkT tp).2.1.length [] ∧ gI M' 457 23 = nI (wkT tp).2.1.length ∧ gI M' 457 21 = (wkT tp).2.2.1 ∧ ImM M' (wkT tp).2.1.length none ∧ SeM M' [] ∧ Fw XM0 M M' := by
  obtain ⟨d', rfl⟩ : ∃ d', d = d' + 6 := ⟨d - 6, by omega⟩
  obtain ⟨b1, b2, b3⟩ := wkT_B hok
  have f0 : Fw XFm M (sI M 457 0 0) := Fw.s (by unfold XFm; omega)
  have w0 := f0.2 hW
  have t0 := TM_F f0 ht
  obtain ⟨M1, e1, r, f1⟩ := m_fault0 (d := d' + 5) (by omega) w0 t0 hk
  have t1 := TM_F f1 t0
  obtain ⟨r1, r2, r3⟩ := r hok
  have w1 := f1.2 w0
  have fv : faultA tp 0 = -1 := by unfold faultA; rw [if_pos rfl, if_pos hok]
  rw [fv] at e1
  have l4 := b1.1
  have hroom := b1.2
  have f01 := f0.tr f1
  clear f1 t0
  generalize hM0 : sI M 457 0 0 = M0 at *
  generalize hl : (wkT tp).2.1 = l at *
  generalize hlm : (wkT tp).2.2.1 = lm at *
  -- the three numbers written ahead
  have g6 : gI M1 457 6 = nI tp.length := t1.1
  have f2 : Fw (fun c j => c = 457 ∧ (j = 6 ∨ j = 21 ∨ j = 23)) M1 (sI (sI (sI M1 457 6 0) 457 21 lm) 457 23 (nI l.length)) := by
    refine ((Fw.s ?_).tr (Fw.s ?_)).tr (Fw.s ?_) <;> omega
  have w2 := f2.2 w1
  have q22 : gI (sI M1 457 6 0) 457 22 = lm := (gI_j (by omega)).trans r1
  have q24 : gI (sI (sI M1 457 6 0) 457 21 lm) 457 24 = nI l.length := by rw [gI_j (by omega), gI_j (by omega)]; exact r2
  have q23 : gI (sI (sI (sI M1 457 6 0) 457 21 lm) 457 23 (nI l.length)) 457 23 = nI l.length := gI_e
  have q21 : gI (sI (sI (sI M1 457 6 0) 457 21 lm) 457 23 (nI l.length)) 457 21 = lm := by rw [gI_j (by omega), gI_e]
  have q6 : gI (sI (sI (sI M1 457 6 0) 457 21 lm) 457 23 (nI l.length)) 457 6 = 0 := by rw [gI_j (by omega), gI_j (by omega), gI_e]
  have q462 : ∀ j, gI (sI (sI (sI M1 457 6 0) 457 21 lm) 457 23 (nI l.length)) 462 j = gI M1 462 j := fun j => f2.I (by omega)
  generalize hM2 : sI (sI (sI M1 457 6 0) 457 21 lm) 457 23 (nI l.length) = M2 at *
  have z0 : nI 0 = 0 := rfl
  have lz := fun d (Q : am_Q) => loop0 (P := fun k => ok d mX11_text 488 Q 488 0 0 223 [some (.ref 457), some (.int 0), some (.int (nI tp.length)), some (.int (nI k))] [] (fl M2 465 k (fun _ => 0))) (n := 164) (fun k hk => by
    have e9 : ((164 : Int32) ≤ nI k) = False := by rw [n164, nI_leE (by omega) (by omega)]; exact eq_false (by omega)
    have sw : sI (fl M2 465 k (fun _ => 0)) 465 k 0 = fl M2 465 (k + 1) (fun _ => 0) := fl_s rfl
    have ck : (nI k).toNatClampNeg = k := nI_clamp (by omega)
    show ok d mX11_text 488 Q 488 0 0 223 _ [] _ = ok d mX11_text 488 Q 488 0 0 223 _ [] _
    rw [sX11_text_223]
    simp (disch := (first | assumption | omega | decide)) only [sX11_text_0, sX11_text_1, sX11_text_2, sX11_text_5, sX11_text_6, sX11_text_7, sX11_text_8, sX11_text_11, sX11_text_14, sX11_text_17, sX11_text_18, sX11_text_19, sX11_text_22, sX11_text_23, sX11_text_26, sX11_text_27, sX11_text_30, sX11_text_31, sX11_text_32, sX11_text_35, sX11_text_36, sX11_text_39, sX11_text_40, sX11_text_43, sX11_text_44, sX11_text_45, sX11_text_48, sX11_text_49, sX11_text_52, sX11_text_53, sX11_text_54, sX11_text_55, sX11_text_58, sX11_text_59, sX11_text_60, sX11_text_61, sX11_text_64, sX11_text_65, sX11_text_66, sX11_text_69, sX11_text_70, sX11_text_72, sX11_text_73, sX11_text_76, sX11_text_77, sX11_text_80, sX11_text_83, sX11_text_84, sX11_text_87, sX11_text_88, sX11_text_89, sX11_text_90, sX11_text_91, sX11_text_94, sX11_text_95, sX11_text_96, sX11_text_97, sX11_text_100, sX11_text_103, sX11_text_104, sX11_text_107, sX11_text_108, sX11_text_111, sX11_text_112, sX11_text_113, sX11_text_114, sX11_text_115, sX11_text_118, sX11_text_119, sX11_text_120, sX11_text_123, sX11_text_124, sX11_text_127, sX11_text_128, sX11_text_129, sX11_text_130, sX11_text_131, sX11_text_132, sX11_text_135, sX11_text_136, sX11_text_138, sX11_text_140, sX11_text_143, sX11_text_144, sX11_text_147, sX11_text_149, sX11_text_150, sX11_text_153, sX11_text_154, sX11_text_155, sX11_text_156, sX11_text_157, sX11_text_160, sX11_text_163, sX11_text_164, sX11_text_165, sX11_text_166, sX11_text_167, sX11_text_170, sX11_text_173, sX11_text_174, sX11_text_177, sX11_text_178, sX11_text_181, sX11_text_182, sX11_text_185, sX11_text_186, sX11_text_187, sX11_text_188, sX11_text_189, sX11_text_190, sX11_text_193, sX11_text_194, sX11_text_195, sX11_text_198, sX11_text_199, sX11_text_202, sX11_text_203, sX11_text_204, sX11_text_205, sX11_text_206, sX11_text_207, sX11_text_210, sX11_text_213, sX11_text_214, sX11_text_215, sX11_text_218, sX11_text_221, sX11_text_222, sX11_text_224, sX11_text_227, sX11_text_230, sX11_text_231, sX11_text_234, sX11_text_235, sX11_text_236, sX11_text_237, sX11_text_240, sX11_text_243, sX11_text_244, sX11_text_246, sX11_text_247, sX11_text_250, sX11_text_253, sX11_text_254, sX11_text_257, sX11_text_259, sX11_text_260, sX11_text_261, sX11_text_262, sX11_text_265, sX11_text_266, sX11_text_267, sX11_text_268, sX11_text_269, sX11_text_270, sX11_text_271, sX11_text_274, sX11_text_276, sX11_text_277, sX11_text_278, sX11_text_279, sX11_text_282, sX11_text_283, sX11_text_284, sX11_text_285, sX11_text_286, sX11_text_287, sX11_text_288, sX11_text_289, sX11_text_290, sX11_text_291, sX11_text_292, sX11_text_295, sX11_text_298, sX11_text_299, sX11_text_300, sX11_text_303, sX11_text_304, sX11_text_305, sX11_text_308, sX11_text_309, sX11_text_310, sX11_text_313, sX11_text_314, sX11_text_317, kI_i, kL_l, kV_v, am_rv_s, am_kl_i, am_kl_r, am_kl_n, am_kl_l, true_and, and_true, and_self, true_or, or_true, implies_true, forall_const, not_true_eq_false, not_false_eq_true, false_implies, true_implies, if_true, if_false, Bool.true_eq_false, Bool.false_eq_true, e9, ob_457, gR_fl, r_457_27, iw_465 (show k < 164 by omega), ck, sw, nI_1])
  have n0 : fl M2 465 164 (fun _ => 0) = fl M2 465 164 (nwF l 0) := fl_congr (fun k _ => by
    unfold nwF
    rw [if_neg (by omega)]
    split <;> rfl)
  simp only [fl_0] at lz
  have la := fun d (Q : am_Q) => loop0 (P := fun k => ok d mX11_text 488 Q 488 0 0 245 [some (.ref 457), some (.int 0), some (.int (nI tp.length)), some (.int (nI k))] [] (fl M2 465 164 (nwF l k))) (n := l.length) (fun k hk => by
    have e9 : (nI l.length ≤ nI k) = False := by rw [nI_leE (by omega) (by omega)]; exact eq_false (by omega)
    obtain ⟨y1, y2⟩ := r3 k l[k] (List.getElem?_eq_getElem hk)
    have s1 : sI (fl M2 465 164 (nwF l k)) 465 (37 + k) l[k].1 = fl M2 465 164 (fun j => if j = 37 + k then l[k].1 else nwF l k j) := sI_fl (by omega)
    have v1 : gI (fl M2 465 164 (fun j => if j = 37 + k then l[k].1 else nwF l k j)) 465 41 = nI (rbF l k) := by
      rw [gI_fl (by omega), if_neg (by omega)]
      unfold nwF
      rw [if_neg (by omega), if_pos rfl]
    have s2 : sI (fl M2 465 164 (fun j => if j = 37 + k then l[k].1 else nwF l k j)) 465 41 (nI (rbF l (k + 1))) = fl M2 465 164 (nwF l (k + 1)) := by
      rw [sI_fl (by omega)]
      refine fl_congr (fun j hj => ?_)
      unfold nwF
      by_cases a : j = 41
      · rw [if_pos a, if_neg (by omega), if_pos a]
      · rw [if_neg a]
        by_cases b : j = 37 + k
        · rw [if_pos b, if_pos (by omega), b, show 37 + k - 37 = k by omega, getD_of hk]
        · rw [if_neg b]
          by_cases c : 37 ≤ j ∧ j < 37 + k
          · rw [if_pos c, if_pos (by omega)]
          · rw [if_neg c, if_neg a, if_neg (by omega), if_neg a]
    have g23 : gI (fl M2 465 164 (nwF l k)) 457 23 = nI l.length := by rw [gI_fn (by omega)]; exact q23
    have c1 : (nI (37 + k)).toNatClampNeg = 37 + k := nI_clamp (by omega)
    have c2 : (nI (2 * k)).toNatClampNeg = 2 * k := nI_clamp (by omega)
    have c3 : (nI (2 * k + 1)).toNatClampNeg = 2 * k + 1 := nI_clamp (by omega)
    have c41 : (nI 41).toNatClampNeg = 41 := nI_clamp (by omega)
    have v2 : gI (fl M2 465 164 (nwF l k)) 462 (2 * k) = l[k].1 := by rw [gI_fn (by omega), q462]; exact y1
    have v3 : gI (fl M2 465 164 (fun j => if j = 37 + k then l[k].1 else nwF l k j)) 462 (2 * k + 1) = l[k].2 := by rw [gI_fn (by omega), q462]; exact y2
    have i2 := fun (M : am_M) => in_462 (M := M) (k := 2 * k) (by omega)
    have i3 := fun (M : am_M) => in_462 (M := M) (k := 2 * k + 1) (by omega)
    have i41 := fun (M : am_M) => in_465 (M := M) (k := 41) (by omega)
    have w37 := iw_465 (k := 37 + k) (by omega)
    have w41 := iw_465 (k := 41) (by omega)
    have sh := shl_01 (k := k) (hroom l[k] (List.getElem_mem hk)) (by omega)
    have rs : rbF l k ||| (if l[k].2 = 1 then 2 ^ k else 0) = rbF l (k + 1) := by
      show _ = rbF l k ||| (if (l.getD k (0, 0)).2 = 1 then 2 ^ k else 0)
      rw [getD_of hk]
    show ok d mX11_text 488 Q 488 0 0 245 _ [] _ = ok d mX11_text 488 Q 488 0 0 245 _ [] _
    rw [sX11_text_245]
    simp (disch := (first | assumption | omega | decide)) only [sX11_text_0, sX11_text_1, sX11_text_2, sX11_text_5, sX11_text_6, sX11_text_7, sX11_text_8, sX11_text_11, sX11_text_14, sX11_text_17, sX11_text_18, sX11_text_19, sX11_text_22, sX11_text_23, sX11_text_26, sX11_text_27, sX11_text_30, sX11_text_31, sX11_text_32, sX11_text_35, sX11_text_36, sX11_text_39, sX11_text_40, sX11_text_43, sX11_text_44, sX11_text_45, sX11_text_48, sX11_text_49, sX11_text_52, sX11_text_53, sX11_text_54, sX11_text_55, sX11_text_58, sX11_text_59, sX11_text_60, sX11_text_61, sX11_text_64, sX11_text_65, sX11_text_66, sX11_text_69, sX11_text_70, sX11_text_72, sX11_text_73, sX11_text_76, sX11_text_77, sX11_text_80, sX11_text_83, sX11_text_84, sX11_text_87, sX11_text_88, sX11_text_89, sX11_text_90, sX11_text_91, sX11_text_94, sX11_text_95, sX11_text_96, sX11_text_97, sX11_text_100, sX11_text_103, sX11_text_104, sX11_text_107, sX11_text_108, sX11_text_111, sX11_text_112, sX11_text_113, sX11_text_114, sX11_text_115, sX11_text_118, sX11_text_119, sX11_text_120, sX11_text_123, sX11_text_124, sX11_text_127, sX11_text_128, sX11_text_129, sX11_text_130, sX11_text_131, sX11_text_132, sX11_text_135, sX11_text_136, sX11_text_138, sX11_text_140, sX11_text_143, sX11_text_144, sX11_text_147, sX11_text_149, sX11_text_150, sX11_text_153, sX11_text_154, sX11_text_155, sX11_text_156, sX11_text_157, sX11_text_160, sX11_text_163, sX11_text_164, sX11_text_165, sX11_text_166, sX11_text_167, sX11_text_170, sX11_text_173, sX11_text_174, sX11_text_177, sX11_text_178, sX11_text_181, sX11_text_182, sX11_text_185, sX11_text_186, sX11_text_187, sX11_text_188, sX11_text_189, sX11_text_190, sX11_text_193, sX11_text_194, sX11_text_195, sX11_text_198, sX11_text_199, sX11_text_202, sX11_text_203, sX11_text_204, sX11_text_205, sX11_text_206, sX11_text_207, sX11_text_210, sX11_text_213, sX11_text_214, sX11_text_215, sX11_text_218, sX11_text_221, sX11_text_222, sX11_text_224, sX11_text_227, sX11_text_230, sX11_text_231, sX11_text_234, sX11_text_235, sX11_text_236, sX11_text_237, sX11_text_240, sX11_text_243, sX11_text_244, sX11_text_246, sX11_text_247, sX11_text_250, sX11_text_253, sX11_text_254, sX11_text_257, sX11_text_259, sX11_text_260, sX11_text_261, sX11_text_262, sX11_text_265, sX11_text_266, sX11_text_267, sX11_text_268, sX11_text_269, sX11_text_270, sX11_text_271, sX11_text_274, sX11_text_276, sX11_text_277, sX11_text_278, sX11_text_279, sX11_text_282, sX11_text_283, sX11_text_284, sX11_text_285, sX11_text_286, sX11_text_287, sX11_text_288, sX11_text_289, sX11_text_290, sX11_text_291, sX11_text_292, sX11_text_295, sX11_text_298, sX11_text_299, sX11_text_300, sX11_text_303, sX11_text_304, sX11_text_305, sX11_text_308, sX11_text_309, sX11_text_310, sX11_text_313, sX11_text_314, sX11_text_317, kI_i, kL_l, kV_v, am_rv_s, am_kl_i, am_kl_r, am_kl_n, am_kl_l, true_and, and_true, and_self, true_or, or_true, implies_true, forall_const, not_true_eq_false, not_false_eq_true, false_implies, true_implies, if_true, if_false, Bool.true_eq_false, Bool.false_eq_true, e9, ob_457, g23, gR_fl, r_457_27, r_457_18, n37, n41, nI_m2, nI_add, nI_1, i2, c1, c2, v2, w37, s1, i41, c41, v1, i3, c3, v3, sh, nI_or, rs, w41, s2])
  have f3 : Fw (fun c j => c = 465 ∨ (c = 457 ∧ (j = 41 ∨ j = 52 ∨ j = 54))) M2 (sI (sI (sI (fl M2 465 164 (nwF l l.length)) 457 52 0) 457 41 0) 457 54 0) := by
    refine (((Fw.f (fun k _ => ?_)).tr (Fw.s ?_)).tr (Fw.s ?_)).tr (Fw.s ?_) <;> omega
  have g23 : gI (fl M2 465 164 (nwF l l.length)) 457 23 = nI l.length := by rw [gI_fn (by omega)]; exact q23
  have g23' : gI (sI (sI (sI (fl M2 465 164 (nwF l l.length)) 457 52 0) 457 41 0) 457 54 0) 457 23 = nI l.length := by rw [gI_j (by omega), gI_j (by omega), gI_j (by omega)]; exact g23
  have gn : ∀ j, j < 164 → gI (sI (sI (sI (fl M2 465 164 (nwF l l.length)) 457 52 0) 457 41 0) 457 54 0) 465 j = nwF l l.length j := fun j hj => by
    rw [gI_o (by omega), gI_o (by omega), gI_o (by omega), gI_fl hj]
  have rb16 : rbF l l.length < 16 := Nat.lt_of_lt_of_le (rbF_lt l.length) (Nat.le_trans (Nat.pow_le_pow_right (by omega) l4) (by omega))
  have i00 : ((0 : Int32) = 0) = True := eq_true rfl
  have n01 : ((0 : Int32) = 1) = False := by simp
  have n02 : ((0 : Int32) = 2) = False := by simp
  have mm : ((-1 : Int32) = -1) = True := eq_true rfl
  have o0 : ((0 : Int32) = 0 ∨ (0 : Int32) = 1) = True := by simp
  have e9 : ((164 : Int32) ≤ nI 164) = True := eq_true (by decide)
  refine ⟨sI (sI (sI (fl M2 465 164 (nwF l l.length)) 457 52 0) 457 41 0) 457 54 0, fun Q => ?_, ⟨?_, by simp, fun k hk => by cases hk⟩, ?_, ⟨?_, by simp, fun i hi => by cases hi⟩, g23', ?_, ⟨gI_e, fun I hI => by cases hI⟩, ⟨?_, by simp, fun i hi => by cases hi⟩, ?_⟩
  · have lz' : ok (d' + 5) mX11_text 488 Q 488 0 0 223 [some (.ref 457), some (.int 0), some (.int (nI tp.length)), some (.int 0)] [] M2 = _ := lz (d' + 5) Q
    have la' : ok (d' + 5) mX11_text 488 Q 488 0 0 245 [some (.ref 457), some (.int 0), some (.int (nI tp.length)), some (.int 0)] [] (fl M2 465 164 (nwF l 0)) = _ := la (d' + 5) Q
    rw [eX11_text]
    simp (disch := (first | assumption | omega | decide)) only [sX11_text_0, sX11_text_1, sX11_text_2, sX11_text_5, sX11_text_6, sX11_text_7, sX11_text_8, sX11_text_11, sX11_text_14, sX11_text_17, sX11_text_18, sX11_text_19, sX11_text_22, sX11_text_23, sX11_text_26, sX11_text_27, sX11_text_30, sX11_text_31, sX11_text_32, sX11_text_35, sX11_text_36, sX11_text_39, sX11_text_40, sX11_text_43, sX11_text_44, sX11_text_45, sX11_text_48, sX11_text_49, sX11_text_52, sX11_text_53, sX11_text_54, sX11_text_55, sX11_text_58, sX11_text_59, sX11_text_60, sX11_text_61, sX11_text_64, sX11_text_65, sX11_text_66, sX11_text_69, sX11_text_70, sX11_text_72, sX11_text_73, sX11_text_76, sX11_text_77, sX11_text_80, sX11_text_83, sX11_text_84, sX11_text_87, sX11_text_88, sX11_text_89, sX11_text_90, sX11_text_91, sX11_text_94, sX11_text_95, sX11_text_96, sX11_text_97, sX11_text_100, sX11_text_103, sX11_text_104, sX11_text_107, sX11_text_108, sX11_text_111, sX11_text_112, sX11_text_113, sX11_text_114, sX11_text_115, sX11_text_118, sX11_text_119, sX11_text_120, sX11_text_123, sX11_text_124, sX11_text_127, sX11_text_128, sX11_text_129, sX11_text_130, sX11_text_131, sX11_text_132, sX11_text_135, sX11_text_136, sX11_text_138, sX11_text_140, sX11_text_143, sX11_text_144, sX11_text_147, sX11_text_149, sX11_text_150, sX11_text_153, sX11_text_154, sX11_text_155, sX11_text_156, sX11_text_157, sX11_text_160, sX11_text_163, sX11_text_164, sX11_text_165, sX11_text_166, sX11_text_167, sX11_text_170, sX11_text_173, sX11_text_174, sX11_text_177, sX11_text_178, sX11_text_181, sX11_text_182, sX11_text_185, sX11_text_186, sX11_text_187, sX11_text_188, sX11_text_189, sX11_text_190, sX11_text_193, sX11_text_194, sX11_text_195, sX11_text_198, sX11_text_199, sX11_text_202, sX11_text_203, sX11_text_204, sX11_text_205, sX11_text_206, sX11_text_207, sX11_text_210, sX11_text_213, sX11_text_214, sX11_text_215, sX11_text_218, sX11_text_221, sX11_text_222, sX11_text_224, sX11_text_227, sX11_text_230, sX11_text_231, sX11_text_234, sX11_text_235, sX11_text_236, sX11_text_237, sX11_text_240, sX11_text_243, sX11_text_244, sX11_text_246, sX11_text_247, sX11_text_250, sX11_text_253, sX11_text_254, sX11_text_257, sX11_text_259, sX11_text_260, sX11_text_261, sX11_text_262, sX11_text_265, sX11_text_266, sX11_text_267, sX11_text_268, sX11_text_269, sX11_text_270, sX11_text_271, sX11_text_274, sX11_text_276, sX11_text_277, sX11_text_278, sX11_text_279, sX11_text_282, sX11_text_283, sX11_text_284, sX11_text_285, sX11_text_286, sX11_text_287, sX11_text_288, sX11_text_289, sX11_text_290, sX11_text_291, sX11_text_292, sX11_text_295, sX11_text_298, sX11_text_299, sX11_text_300, sX11_text_303, sX11_text_304, sX11_text_305, sX11_text_308, sX11_text_309, sX11_text_310, sX11_text_313, sX11_text_314, sX11_text_317, kI_i, kL_l, kV_v, am_rv_s, am_kl_i, am_kl_r, am_kl_n, am_kl_l, true_and, and_true, and_self, true_or, or_true, implies_true, forall_const, not_true_eq_false, not_false_eq_true, false_implies, true_implies, if_true, if_false, Bool.true_eq_false, Bool.false_eq_true, ob_457, hM0, c64_0, c64_2, m_isIn, isin02.1, bz_t, i01, n01, n02, e1, mm, g6, q22, q24, hM2, lz']
    rw [sX11_text_223]
    simp (disch := (first | assumption | omega | decide)) only [sX11_text_0, sX11_text_1, sX11_text_2, sX11_text_5, sX11_text_6, sX11_text_7, sX11_text_8, sX11_text_11, sX11_text_14, sX11_text_17, sX11_text_18, sX11_text_19, sX11_text_22, sX11_text_23, sX11_text_26, sX11_text_27, sX11_text_30, sX11_text_31, sX11_text_32, sX11_text_35, sX11_text_36, sX11_text_39, sX11_text_40, sX11_text_43, sX11_text_44, sX11_text_45, sX11_text_48, sX11_text_49, sX11_text_52, sX11_text_53, sX11_text_54, sX11_text_55, sX11_text_58, sX11_text_59, sX11_text_60, sX11_text_61, sX11_text_64, sX11_text_65, sX11_text_66, sX11_text_69, sX11_text_70, sX11_text_72, sX11_text_73, sX11_text_76, sX11_text_77, sX11_text_80, sX11_text_83, sX11_text_84, sX11_text_87, sX11_text_88, sX11_text_89, sX11_text_90, sX11_text_91, sX11_text_94, sX11_text_95, sX11_text_96, sX11_text_97, sX11_text_100, sX11_text_103, sX11_text_104, sX11_text_107, sX11_text_108, sX11_text_111, sX11_text_112, sX11_text_113, sX11_text_114, sX11_text_115, sX11_text_118, sX11_text_119, sX11_text_120, sX11_text_123, sX11_text_124, sX11_text_127, sX11_text_128, sX11_text_129, sX11_text_130, sX11_text_131, sX11_text_132, sX11_text_135, sX11_text_136, sX11_text_138, sX11_text_140, sX11_text_143, sX11_text_144, sX11_text_147, sX11_text_149, sX11_text_150, sX11_text_153, sX11_text_154, sX11_text_155, sX11_text_156, sX11_text_157, sX11_text_160, sX11_text_163, sX11_text_164, sX11_text_165, sX11_text_166, sX11_text_167, sX11_text_170, sX11_text_173, sX11_text_174, sX11_text_177, sX11_text_178, sX11_text_181, sX11_text_182, sX11_text_185, sX11_text_186, sX11_text_187, sX11_text_188, sX11_text_189, sX11_text_190, sX11_text_193, sX11_text_194, sX11_text_195, sX11_text_198, sX11_text_199, sX11_text_202, sX11_text_203, sX11_text_204, sX11_text_205, sX11_text_206, sX11_text_207, sX11_text_210, sX11_text_213, sX11_text_214, sX11_text_215, sX11_text_218, sX11_text_221, sX11_text_222, sX11_text_224, sX11_text_227, sX11_text_230, sX11_text_231, sX11_text_234, sX11_text_235, sX11_text_236, sX11_text_237, sX11_text_240, sX11_text_243, sX11_text_244, sX11_text_246, sX11_text_247, sX11_text_250, sX11_text_253, sX11_text_254, sX11_text_257, sX11_text_259, sX11_text_260, sX11_text_261, sX11_text_262, sX11_text_265, sX11_text_266, sX11_text_267, sX11_text_268, sX11_text_269, sX11_text_270, sX11_text_271, sX11_text_274, sX11_text_276, sX11_text_277, sX11_text_278, sX11_text_279, sX11_text_282, sX11_text_283, sX11_text_284, sX11_text_285, sX11_text_286, sX11_text_287, sX11_text_288, sX11_text_289, sX11_text_290, sX11_text_291, sX11_text_292, sX11_text_295, sX11_text_298, sX11_text_299, sX11_text_300, sX11_text_303, sX11_text_304, sX11_text_305, sX11_text_308, sX11_text_309, sX11_text_310, sX11_text_313, sX11_text_314, sX11_text_317, kI_i, kL_l, kV_v, am_rv_s, am_kl_i, am_kl_r, am_kl_n, am_kl_l, true_and, and_true, and_self, true_or, or_true, implies_true, forall_const, not_true_eq_false, not_false_eq_true, false_implies, true_implies, if_true, if_false, Bool.true_eq_false, Bool.false_eq_true, e9, n0, la']
    rw [sX11_text_245]
    simp (disch := (first | assumption | omega | decide)) only [sX11_text_0, sX11_text_1, sX11_text_2, sX11_text_5, sX11_text_6, sX11_text_7, sX11_text_8, sX11_text_11, sX11_text_14, sX11_text_17, sX11_text_18, sX11_text_19, sX11_text_22, sX11_text_23, sX11_text_26, sX11_text_27, sX11_text_30, sX11_text_31, sX11_text_32, sX11_text_35, sX11_text_36, sX11_text_39, sX11_text_40, sX11_text_43, sX11_text_44, sX11_text_45, sX11_text_48, sX11_text_49, sX11_text_52, sX11_text_53, sX11_text_54, sX11_text_55, sX11_text_58, sX11_text_59, sX11_text_60, sX11_text_61, sX11_text_64, sX11_text_65, sX11_text_66, sX11_text_69, sX11_text_70, sX11_text_72, sX11_text_73, sX11_text_76, sX11_text_77, sX11_text_80, sX11_text_83, sX11_text_84, sX11_text_87, sX11_text_88, sX11_text_89, sX11_text_90, sX11_text_91, sX11_text_94, sX11_text_95, sX11_text_96, sX11_text_97, sX11_text_100, sX11_text_103, sX11_text_104, sX11_text_107, sX11_text_108, sX11_text_111, sX11_text_112, sX11_text_113, sX11_text_114, sX11_text_115, sX11_text_118, sX11_text_119, sX11_text_120, sX11_text_123, sX11_text_124, sX11_text_127, sX11_text_128, sX11_text_129, sX11_text_130, sX11_text_131, sX11_text_132, sX11_text_135, sX11_text_136, sX11_text_138, sX11_text_140, sX11_text_143, sX11_text_144, sX11_text_147, sX11_text_149, sX11_text_150, sX11_text_153, sX11_text_154, sX11_text_155, sX11_text_156, sX11_text_157, sX11_text_160, sX11_text_163, sX11_text_164, sX11_text_165, sX11_text_166, sX11_text_167, sX11_text_170, sX11_text_173, sX11_text_174, sX11_text_177, sX11_text_178, sX11_text_181, sX11_text_182, sX11_text_185, sX11_text_186, sX11_text_187, sX11_text_188, sX11_text_189, sX11_text_190, sX11_text_193, sX11_text_194, sX11_text_195, sX11_text_198, sX11_text_199, sX11_text_202, sX11_text_203, sX11_text_204, sX11_text_205, sX11_text_206, sX11_text_207, sX11_text_210, sX11_text_213, sX11_text_214, sX11_text_215, sX11_text_218, sX11_text_221, sX11_text_222, sX11_text_224, sX11_text_227, sX11_text_230, sX11_text_231, sX11_text_234, sX11_text_235, sX11_text_236, sX11_text_237, sX11_text_240, sX11_text_243, sX11_text_244, sX11_text_246, sX11_text_247, sX11_text_250, sX11_text_253, sX11_text_254, sX11_text_257, sX11_text_259, sX11_text_260, sX11_text_261, sX11_text_262, sX11_text_265, sX11_text_266, sX11_text_267, sX11_text_268, sX11_text_269, sX11_text_270, sX11_text_271, sX11_text_274, sX11_text_276, sX11_text_277, sX11_text_278, sX11_text_279, sX11_text_282, sX11_text_283, sX11_text_284, sX11_text_285, sX11_text_286, sX11_text_287, sX11_text_288, sX11_text_289, sX11_text_290, sX11_text_291, sX11_text_292, sX11_text_295, sX11_text_298, sX11_text_299, sX11_text_300, sX11_text_303, sX11_text_304, sX11_text_305, sX11_text_308, sX11_text_309, sX11_text_310, sX11_text_313, sX11_text_314, sX11_text_317, kI_i, kL_l, kV_v, am_rv_s, am_kl_i, am_kl_r, am_kl_n, am_kl_l, true_and, and_true, and_self, true_or, or_true, implies_true, forall_const, not_true_eq_false, not_false_eq_true, false_implies, true_implies, if_true, if_false, Bool.true_eq_false, Bool.false_eq_true, ob_457, g23, Int32.le_refl, o0, g23']
  · rw [gI_j (by omega), gI_j (by omega), gI_j (by omega), gI_fn (by omega)]; exact q6
  · refine ⟨by show (0 : Nat) ≤ 12; omega, ?_, fun k t hk => (by cases hk), fun i hi => ?_, ⟨?_, rb16, l4⟩, ?_, ?_, by show (0 : Nat) ≤ 60; omega, fun i hi => by cases hi⟩
    · rw [gn _ (by omega)]; unfold nwF; rw [if_neg (by omega), if_neg (by omega)]; rfl
    · rw [gn _ (by omega)]
      unfold nwF
      rw [if_pos (by omega), show 0 + 37 + i - 37 = i by omega]
      rfl
    · rw [gn _ (by omega)]; unfold nwF; rw [if_neg (by omega), if_pos (by omega)]; rfl
    · rw [gn _ (by omega)]; unfold nwF; rw [if_neg (by omega), if_neg (by omega)]; rfl
    · rw [gn _ (by omega)]; unfold nwF; rw [if_neg (by omega), if_neg (by omega)]; rfl
  · rw [gI_j (by omega), gI_e]; rfl
  · rw [gI_j (by omega), gI_j (by omega), gI_j (by omega), gI_fn (by omega)]; exact q21
  · rw [gI_j (by omega), gI_j (by omega), gI_e]; rfl
  · exact ((f01.mo (fun c j z => Or.inl z)).tr (f2.mo (fun c j z => by omega))).tr (f3.mo (fun c j z => by omega))
def XM1 (c j : Nat) : Prop := XFm c j ∨ c = 459 ∨ c = 460 ∨ (c = 457 ∧ (j = 6 ∨ j = 7))
theorem gD_app {i : Nat} (hi : i < LL.length) : (LL ++ [tp]).getD i [] = LL.getD i [] := by
  rw [List.getD_eq_getElem?_getD, List.getD_eq_getElem?_getD, List.getElem?_append_left hi]
theorem mem_app (h : mem M LL) (l4 : LL.length ≤ 4) : mem M (LL ++ [tp]) := fun s hs => by
  rcases h s hs with z | ⟨h', so, pa, x, n, b, t, q1, q2, q3, q4⟩
  · exact Or.inl z
  · refine Or.inr ⟨h', so, pa, x, n, b, t, by rw [List.length_append]; omega, q2, q3, ?_⟩
    rw [q4]
    unfold prc
    have ne : ¬ nI h' = -1 := fun w => by
      have := nI_m1 (k := h') (by omega)
      rw [w] at this
      simp at this
    rw [if_neg ne, if_neg ne, nI_clamp (by omega), gD_app q1]
theorem m_text1 (hd : 33 ≤ d) (hW : WR M) (ht : TM M tp) (hk : tpK tp) (hb : LbM M LL h) (hok : (lwT tp).1 = true) (c4 : LL.length < 4) : ∃ M', (∀ (Q : am_Q), am_big d mX11_text [.ref 457, .int 1] 488 M Q = Q (some (.int (nI LL.length))) M') ∧ TM M' [] ∧ LbM M' (LL ++ [tp]) h ∧ Fw XM1 M M' := by
  obtain ⟨d', rfl⟩ : ∃ d', d = d' + 6 := ⟨d - 6, by omega⟩
  have f0 : Fw XFm M (sI M 457 0 0) := Fw.s (by unfold XFm; omega)
  have w0 := f0.2 hW
  have t0 := TM_F f0 ht
  have hb0 : LbM (sI M 457 0 0) LL h := LbM_Fw f0 (fun c j hc => by unfold XFm; omega) hb
  have hL0 := hb0.2.2.2.2.2.2.2
  have g7 : gI (sI M 457 0 0) 457 7 = nI LL.length := hb0.1
  obtain ⟨M1, e1, f1⟩ := m_fault1 (d := d' + 5) (by omega) w0 t0 hk hL0
  have t1 := TM_F f1 t0
  have hb1 : LbM M1 LL h := LbM_Fw f1 (fun c j hc => by unfold XFm; omega) hb0
  have fv : faultA tp 1 = -1 := by unfold faultA; rw [if_neg (by decide), if_pos rfl, if_pos hok]
  rw [fv] at e1
  have w1 := f1.2 w0
  have f01 := f0.tr f1
  clear f1 t0 hb0
  generalize hM0 : sI M 457 0 0 = M0 at *
  have g6 : gI M1 457 6 = nI tp.length := t1.1
  have l240 := t1.2.1
  have gt := t1.2.2
  obtain ⟨h1, h2, h3, h4, h5, h6, h7, h8⟩ := hb1
  have f2 : Fw (fun c j => c = 457 ∧ j = 6) M1 (sI M1 457 6 0) := Fw.s ⟨rfl, rfl⟩
  have m7 : gI (sI M1 457 6 0) 457 7 = nI LL.length := (gI_j (by omega)).trans h1
  have m458 : ∀ k, gI (sI M1 457 6 0) 458 k = gI M1 458 k := fun k => gI_o (by omega)
  have m459 : ∀ k, gI (sI M1 457 6 0) 459 k = gI M1 459 k := fun k => gI_o (by omega)
  have m6 : gI (sI M1 457 6 0) 457 6 = 0 := gI_e
  have w2 := f2.2 w1
  generalize hM2 : sI M1 457 6 0 = M2 at *
  have L4 : (nI LL.length = 4) = False := by rw [show (4 : Int32) = nI 4 from rfl, nI_eqE (by omega) (by omega)]; exact eq_false (by omega)
  have m240 : (240 : Int32) * nI LL.length = nI (240 * LL.length) := by rw [show (240 : Int32) = nI 240 from rfl, pk_mul]
  -- the text is copied
  have lp := fun d (Q : am_Q) => loop0 (P := fun k => ok d mX11_text 488 Q 488 0 0 71 [some (.ref 457), some (.int 1), some (.int (nI tp.length)), some (.int (nI k))] [] (cpI M2 458 0 459 (240 * LL.length) k)) (n := tp.length) (fun k hk => by
    have e9 : (nI tp.length ≤ nI k) = False := by rw [nI_leE (by omega) (by omega)]; exact eq_false (by omega)
    have sw := cp_s (a := 459) (a0 := 458) (off := 0) (off' := 240 * LL.length) (k := k) (N := M2) (by omega)
    rw [Nat.zero_add] at sw
    have gk : gI M2 458 k = bsx tp[k] := (m458 k).trans (gt k hk)
    rw [gk] at sw
    have g3 : gI (cpI M2 458 0 459 (240 * LL.length) k) 458 k = bsx tp[k] := by rw [gI_cpo (by omega)]; exact gk
    have g7 : gI (cpI M2 458 0 459 (240 * LL.length) k) 457 7 = nI LL.length := by rw [gI_cpo (by omega)]; exact m7
    have ck : (nI k).toNatClampNeg = k := nI_clamp (by omega)
    have cx : (nI (240 * LL.length + k)).toNatClampNeg = 240 * LL.length + k := nI_clamp (by omega)
    have i8 := iw_458 (k := k) (by omega)
    have i9 := iw_459 (k := 240 * LL.length + k) (by omega)
    show ok d mX11_text 488 Q 488 0 0 71 _ [] _ = ok d mX11_text 488 Q 488 0 0 71 _ [] _
    rw [sX11_text_71]
    simp (disch := (first | assumption | omega | decide)) only [sX11_text_0, sX11_text_1, sX11_text_2, sX11_text_5, sX11_text_6, sX11_text_7, sX11_text_8, sX11_text_11, sX11_text_14, sX11_text_17, sX11_text_18, sX11_text_19, sX11_text_22, sX11_text_23, sX11_text_26, sX11_text_27, sX11_text_30, sX11_text_31, sX11_text_32, sX11_text_35, sX11_text_36, sX11_text_39, sX11_text_40, sX11_text_43, sX11_text_44, sX11_text_45, sX11_text_48, sX11_text_49, sX11_text_52, sX11_text_53, sX11_text_54, sX11_text_55, sX11_text_58, sX11_text_59, sX11_text_60, sX11_text_61, sX11_text_64, sX11_text_65, sX11_text_66, sX11_text_69, sX11_text_70, sX11_text_72, sX11_text_73, sX11_text_76, sX11_text_77, sX11_text_80, sX11_text_83, sX11_text_84, sX11_text_87, sX11_text_88, sX11_text_89, sX11_text_90, sX11_text_91, sX11_text_94, sX11_text_95, sX11_text_96, sX11_text_97, sX11_text_100, sX11_text_103, sX11_text_104, sX11_text_107, sX11_text_108, sX11_text_111, sX11_text_112, sX11_text_113, sX11_text_114, sX11_text_115, sX11_text_118, sX11_text_119, sX11_text_120, sX11_text_123, sX11_text_124, sX11_text_127, sX11_text_128, sX11_text_129, sX11_text_130, sX11_text_131, sX11_text_132, sX11_text_135, sX11_text_136, sX11_text_138, sX11_text_140, sX11_text_143, sX11_text_144, sX11_text_147, sX11_text_149, sX11_text_150, sX11_text_153, sX11_text_154, sX11_text_155, sX11_text_156, sX11_text_157, sX11_text_160, sX11_text_163, sX11_text_164, sX11_text_165, sX11_text_166, sX11_text_167, sX11_text_170, sX11_text_173, sX11_text_174, sX11_text_177, sX11_text_178, sX11_text_181, sX11_text_182, sX11_text_185, sX11_text_186, sX11_text_187, sX11_text_188, sX11_text_189, sX11_text_190, sX11_text_193, sX11_text_194, sX11_text_195, sX11_text_198, sX11_text_199, sX11_text_202, sX11_text_203, sX11_text_204, sX11_text_205, sX11_text_206, sX11_text_207, sX11_text_210, sX11_text_213, sX11_text_214, sX11_text_215, sX11_text_218, sX11_text_221, sX11_text_222, sX11_text_224, sX11_text_227, sX11_text_230, sX11_text_231, sX11_text_234, sX11_text_235, sX11_text_236, sX11_text_237, sX11_text_240, sX11_text_243, sX11_text_244, sX11_text_246, sX11_text_247, sX11_text_250, sX11_text_253, sX11_text_254, sX11_text_257, sX11_text_259, sX11_text_260, sX11_text_261, sX11_text_262, sX11_text_265, sX11_text_266, sX11_text_267, sX11_text_268, sX11_text_269, sX11_text_270, sX11_text_271, sX11_text_274, sX11_text_276, sX11_text_277, sX11_text_278, sX11_text_279, sX11_text_282, sX11_text_283, sX11_text_284, sX11_text_285, sX11_text_286, sX11_text_287, sX11_text_288, sX11_text_289, sX11_text_290, sX11_text_291, sX11_text_292, sX11_text_295, sX11_text_298, sX11_text_299, sX11_text_300, sX11_text_303, sX11_text_304, sX11_text_305, sX11_text_308, sX11_text_309, sX11_text_310, sX11_text_313, sX11_text_314, sX11_text_317, kI_i, kL_l, kV_v, am_rv_s, am_kl_i, am_kl_r, am_kl_n, am_kl_l, true_and, and_true, and_self, true_or, or_true, implies_true, forall_const, not_true_eq_false, not_false_eq_true, false_implies, true_implies, if_true, if_false, Bool.true_eq_false, Bool.false_eq_true, e9, ob_457, gR_cpI, r_457_1, r_457_2, g7, m240, nI_add, i8, iwn_458, or_false, i9, iwn_459, ck, cx, g3, bsx_i8, false_and, sw, nI_1])
  simp only [cp_0] at lp
  have f3 : Fw (fun c _ => c = 459) M2 (cpI M2 458 0 459 (240 * LL.length) tp.length) := Fw.c (fun k => rfl)
  have gc : ∀ i, i < tp.length → gI (cpI M2 458 0 459 (240 * LL.length) tp.length) 459 (240 * LL.length + i) = gI M1 458 i := fun i hi => by
    rw [gI_cpi (by omega) (by omega), show 0 + (240 * LL.length + i - 240 * LL.length) = i by omega]; exact m458 i
  have gu : ∀ i, i < 240 * LL.length → gI (cpI M2 458 0 459 (240 * LL.length) tp.length) 459 i = gI M1 459 i := fun i hi => by
    rw [gI_cpu (by omega)]; exact m459 i
  have w3 := f3.2 w2
  generalize hM3 : cpI M2 458 0 459 (240 * LL.length) tp.length = M3 at *
  have g7' : gI M3 457 7 = nI LL.length := (f3.I (by omega)).trans m7
  have g7s : gI (sI M3 460 LL.length (nI tp.length)) 457 7 = nI LL.length := (gI_o (by omega)).trans g7'
  have g7e : gI (sI (sI M3 460 LL.length (nI tp.length)) 457 7 (nI (LL.length + 1))) 457 7 = nI (LL.length + 1) := gI_e
  have sb : nI (LL.length + 1) - 1 = nI LL.length := by rw [nI_sub1 (by omega)]; rfl
  have cl : (nI LL.length).toNatClampNeg = LL.length := nI_clamp (by omega)
  have w60 := iw_460 (k := LL.length) (by omega)
  have n10 : ((1 : Int32) = 0) = False := by simp
  have n12 : ((1 : Int32) = 2) = False := by simp
  have i11 : ((1 : Int32) = 1) = True := eq_true rfl
  have mm : ((-1 : Int32) = -1) = True := eq_true rfl
  have f4 : Fw XM1 M3 (sI (sI M3 460 LL.length (nI tp.length)) 457 7 (nI (LL.length + 1))) := (Fw.s (by unfold XM1; omega)).tr (Fw.s (by unfold XM1; omega))
  have fall : Fw XM1 M (sI (sI M3 460 LL.length (nI tp.length)) 457 7 (nI (LL.length + 1))) := (((f01.mo (fun c j z => Or.inl z)).tr (f2.mo (fun c j z => by omega))).tr (f3.mo (fun c j z => by omega))).tr f4
  have f14 : Fw (fun c j => c = 459 ∨ c = 460 ∨ (c = 457 ∧ (j = 6 ∨ j = 7))) M1 (sI (sI M3 460 LL.length (nI tp.length)) 457 7 (nI (LL.length + 1))) := ((f2.mo (fun c j z => by omega)).tr (f3.mo (fun c j z => by omega))).tr ((Fw.s (by omega)).tr (Fw.s (by omega)))
  refine ⟨sI (sI M3 460 LL.length (nI tp.length)) 457 7 (nI (LL.length + 1)), fun Q => ?_, ⟨?_, by simp, fun k hk => by cases hk⟩, ⟨?_, ?_, ?_, fun t hm => ?_, ?_, fun i hi => ?_, ?_, ?_⟩, fall⟩
  · have lp' : ok (d' + 5) mX11_text 488 Q 488 0 0 71 [some (.ref 457), some (.int 1), some (.int (nI tp.length)), some (.int 0)] [] M2 = _ := lp (d' + 5) Q
    rw [eX11_text]
    simp (disch := (first | assumption | omega | decide)) only [sX11_text_0, sX11_text_1, sX11_text_2, sX11_text_5, sX11_text_6, sX11_text_7, sX11_text_8, sX11_text_11, sX11_text_14, sX11_text_17, sX11_text_18, sX11_text_19, sX11_text_22, sX11_text_23, sX11_text_26, sX11_text_27, sX11_text_30, sX11_text_31, sX11_text_32, sX11_text_35, sX11_text_36, sX11_text_39, sX11_text_40, sX11_text_43, sX11_text_44, sX11_text_45, sX11_text_48, sX11_text_49, sX11_text_52, sX11_text_53, sX11_text_54, sX11_text_55, sX11_text_58, sX11_text_59, sX11_text_60, sX11_text_61, sX11_text_64, sX11_text_65, sX11_text_66, sX11_text_69, sX11_text_70, sX11_text_72, sX11_text_73, sX11_text_76, sX11_text_77, sX11_text_80, sX11_text_83, sX11_text_84, sX11_text_87, sX11_text_88, sX11_text_89, sX11_text_90, sX11_text_91, sX11_text_94, sX11_text_95, sX11_text_96, sX11_text_97, sX11_text_100, sX11_text_103, sX11_text_104, sX11_text_107, sX11_text_108, sX11_text_111, sX11_text_112, sX11_text_113, sX11_text_114, sX11_text_115, sX11_text_118, sX11_text_119, sX11_text_120, sX11_text_123, sX11_text_124, sX11_text_127, sX11_text_128, sX11_text_129, sX11_text_130, sX11_text_131, sX11_text_132, sX11_text_135, sX11_text_136, sX11_text_138, sX11_text_140, sX11_text_143, sX11_text_144, sX11_text_147, sX11_text_149, sX11_text_150, sX11_text_153, sX11_text_154, sX11_text_155, sX11_text_156, sX11_text_157, sX11_text_160, sX11_text_163, sX11_text_164, sX11_text_165, sX11_text_166, sX11_text_167, sX11_text_170, sX11_text_173, sX11_text_174, sX11_text_177, sX11_text_178, sX11_text_181, sX11_text_182, sX11_text_185, sX11_text_186, sX11_text_187, sX11_text_188, sX11_text_189, sX11_text_190, sX11_text_193, sX11_text_194, sX11_text_195, sX11_text_198, sX11_text_199, sX11_text_202, sX11_text_203, sX11_text_204, sX11_text_205, sX11_text_206, sX11_text_207, sX11_text_210, sX11_text_213, sX11_text_214, sX11_text_215, sX11_text_218, sX11_text_221, sX11_text_222, sX11_text_224, sX11_text_227, sX11_text_230, sX11_text_231, sX11_text_234, sX11_text_235, sX11_text_236, sX11_text_237, sX11_text_240, sX11_text_243, sX11_text_244, sX11_text_246, sX11_text_247, sX11_text_250, sX11_text_253, sX11_text_254, sX11_text_257, sX11_text_259, sX11_text_260, sX11_text_261, sX11_text_262, sX11_text_265, sX11_text_266, sX11_text_267, sX11_text_268, sX11_text_269, sX11_text_270, sX11_text_271, sX11_text_274, sX11_text_276, sX11_text_277, sX11_text_278, sX11_text_279, sX11_text_282, sX11_text_283, sX11_text_284, sX11_text_285, sX11_text_286, sX11_text_287, sX11_text_288, sX11_text_289, sX11_text_290, sX11_text_291, sX11_text_292, sX11_text_295, sX11_text_298, sX11_text_299, sX11_text_300, sX11_text_303, sX11_text_304, sX11_text_305, sX11_text_308, sX11_text_309, sX11_text_310, sX11_text_313, sX11_text_314, sX11_text_317, kI_i, kL_l, kV_v, am_rv_s, am_kl_i, am_kl_r, am_kl_n, am_kl_l, true_and, and_true, and_self, true_or, or_true, implies_true, forall_const, not_true_eq_false, not_false_eq_true, false_implies, true_implies, if_true, if_false, Bool.true_eq_false, Bool.false_eq_true, ob_457, hM0, c64_0, c64_2, m_isIn, isin02.2.1, bz_t, i01, i11, n12, g7, L4, e1, mm, g6, hM2, lp']
    rw [sX11_text_71]
    simp (disch := (first | assumption | omega | decide)) only [sX11_text_0, sX11_text_1, sX11_text_2, sX11_text_5, sX11_text_6, sX11_text_7, sX11_text_8, sX11_text_11, sX11_text_14, sX11_text_17, sX11_text_18, sX11_text_19, sX11_text_22, sX11_text_23, sX11_text_26, sX11_text_27, sX11_text_30, sX11_text_31, sX11_text_32, sX11_text_35, sX11_text_36, sX11_text_39, sX11_text_40, sX11_text_43, sX11_text_44, sX11_text_45, sX11_text_48, sX11_text_49, sX11_text_52, sX11_text_53, sX11_text_54, sX11_text_55, sX11_text_58, sX11_text_59, sX11_text_60, sX11_text_61, sX11_text_64, sX11_text_65, sX11_text_66, sX11_text_69, sX11_text_70, sX11_text_72, sX11_text_73, sX11_text_76, sX11_text_77, sX11_text_80, sX11_text_83, sX11_text_84, sX11_text_87, sX11_text_88, sX11_text_89, sX11_text_90, sX11_text_91, sX11_text_94, sX11_text_95, sX11_text_96, sX11_text_97, sX11_text_100, sX11_text_103, sX11_text_104, sX11_text_107, sX11_text_108, sX11_text_111, sX11_text_112, sX11_text_113, sX11_text_114, sX11_text_115, sX11_text_118, sX11_text_119, sX11_text_120, sX11_text_123, sX11_text_124, sX11_text_127, sX11_text_128, sX11_text_129, sX11_text_130, sX11_text_131, sX11_text_132, sX11_text_135, sX11_text_136, sX11_text_138, sX11_text_140, sX11_text_143, sX11_text_144, sX11_text_147, sX11_text_149, sX11_text_150, sX11_text_153, sX11_text_154, sX11_text_155, sX11_text_156, sX11_text_157, sX11_text_160, sX11_text_163, sX11_text_164, sX11_text_165, sX11_text_166, sX11_text_167, sX11_text_170, sX11_text_173, sX11_text_174, sX11_text_177, sX11_text_178, sX11_text_181, sX11_text_182, sX11_text_185, sX11_text_186, sX11_text_187, sX11_text_188, sX11_text_189, sX11_text_190, sX11_text_193, sX11_text_194, sX11_text_195, sX11_text_198, sX11_text_199, sX11_text_202, sX11_text_203, sX11_text_204, sX11_text_205, sX11_text_206, sX11_text_207, sX11_text_210, sX11_text_213, sX11_text_214, sX11_text_215, sX11_text_218, sX11_text_221, sX11_text_222, sX11_text_224, sX11_text_227, sX11_text_230, sX11_text_231, sX11_text_234, sX11_text_235, sX11_text_236, sX11_text_237, sX11_text_240, sX11_text_243, sX11_text_244, sX11_text_246, sX11_text_247, sX11_text_250, sX11_text_253, sX11_text_254, sX11_text_257, sX11_text_259, sX11_text_260, sX11_text_261, sX11_text_262, sX11_text_265, sX11_text_266, sX11_text_267, sX11_text_268, sX11_text_269, sX11_text_270, sX11_text_271, sX11_text_274, sX11_text_276, sX11_text_277, sX11_text_278, sX11_text_279, sX11_text_282, sX11_text_283, sX11_text_284, sX11_text_285, sX11_text_286, sX11_text_287, sX11_text_288, sX11_text_289, sX11_text_290, sX11_text_291, sX11_text_292, sX11_text_295, sX11_text_298, sX11_text_299, sX11_text_300, sX11_text_303, sX11_text_304, sX11_text_305, sX11_text_308, sX11_text_309, sX11_text_310, sX11_text_313, sX11_text_314, sX11_text_317, kI_i, kL_l, kV_v, am_rv_s, am_kl_i, am_kl_r, am_kl_n, am_kl_l, true_and, and_true, and_self, true_or, or_true, implies_true, forall_const, not_true_eq_false, not_false_eq_true, false_implies, true_implies, if_true, if_false, Bool.true_eq_false, Bool.false_eq_true, ob_457, Int32.le_refl, r_457_3, g7', w60, cl, g7s, nI_1, g7e, sb]
  · rw [gI_j (by omega), gI_o (by omega), f3.I (by omega)]; exact m6
  · rw [gI_e, List.length_append]; rfl
  · rw [f14.I (by omega)]; exact h2
  · rw [List.length_append]; simp; omega
  · rw [List.mem_append, List.mem_singleton] at hm
    rcases hm with hm | rfl
    · exact h4 t hm
    · exact ⟨hk, l240, hok⟩
  · rcases h5 with h5 | ⟨i, hi, h5⟩
    · exact Or.inl h5
    · exact Or.inr ⟨i, by rw [List.length_append]; omega, h5⟩
  · rw [List.length_append] at hi
    have hi' : i < LL.length + 1 := hi
    by_cases q : i = LL.length
    · subst q
      have ei : (LL ++ [tp])[LL.length] = tp := by simp
      rw [ei]
      refine ⟨?_, fun k hk => ?_⟩
      · rw [gI_o (by omega), gI_e]
      · rw [gI_o (by omega), gI_o (by omega), gc k hk]; exact gt k hk
    · have hil : i < LL.length := by omega
      have ei : (LL ++ [tp])[i] = LL[i] := List.getElem_append_left hil
      rw [ei]
      obtain ⟨y1, y2⟩ := h6 i hil
      have yl := (h4 _ (List.getElem_mem hil)).2.1
      refine ⟨?_, fun k hk => ?_⟩
      · rw [gI_o (by omega), gI_j (by omega), f3.I (by omega), f2.I (by omega)]; exact y1
      · rw [gI_o (by omega), gI_o (by omega), gu _ (by omega)]; exact y2 k hk
  · have hm : mem (sI (sI M3 460 LL.length (nI tp.length)) 457 7 (nI (LL.length + 1))) LL := fun s hs => by
      rw [f14.L (by omega), f14.I (by omega)]
      exact h7 s hs
    exact mem_app hm (by omega)
  · exact LMt_e (fun j => f14.I (by omega)) h8
def XM2 (c j : Nat) : Prop := XFm c j ∨ (c = 463 ∧ j < 192) ∨ c = 464 ∨ (c = 457 ∧ (j = 6 ∨ j = 25))
theorem m_text2 (hd : 33 ≤ d) (hW : WR M) (ht : TM M tp) (hk : tpK tp) (hb : PlM M PL) (hok : (plT tp).1 = true) (hln : (plT tp).2.1.length ≤ 16) (c4 : PL.length < 4) : ∃ M', (∀ (Q : am_Q), am_big d mX11_text [.ref 457, .int 2] 488 M Q = Q (some (.int (nI PL.length))) M') ∧ TM M' [] ∧ PlM M' (PL ++ [(plT tp).2.1]) ∧ Fw XM2 M M' := by
  obtain ⟨d', rfl⟩ : ∃ d', d = d' + 6 := ⟨d - 6, by omega⟩
  have f0 : Fw XFm M (sI M 457 0 0) := Fw.s (by unfold XFm; omega)
  have w0 := f0.2 hW
  have t0 := TM_F f0 ht
  obtain ⟨M1, e1, r, f1⟩ := m_fault2 (d := d' + 5) (by omega) w0 t0 hk
  have t1 := TM_F f1 t0
  obtain ⟨r1, r2⟩ := r hok
  have fv : faultA tp 2 = -1 := by unfold faultA; rw [if_neg (by decide), if_neg (by decide), if_pos rfl, if_pos hok]
  rw [fv] at e1
  have w1 := f1.2 w0
  have f01 := f0.tr f1
  obtain ⟨b1, b2, b3⟩ := hb
  have g25 : gI (sI M 457 0 0) 457 25 = nI PL.length := (gI_j (by omega)).trans b1
  have h25 : gI M1 457 25 = nI PL.length := (f01.I (by unfold XFm; omega)).trans b1
  have hb1 : ∀ i (h : i < PL.length), gI M1 464 i = nI PL[i].length ∧ PL[i].length ≤ 16 ∧ plh (gI M1 463) (48 * i) PL[i] := fun i hi => by
    obtain ⟨y1, y2, y3⟩ := b3 i hi
    refine ⟨(f01.I (by unfold XFm; omega)).trans y1, y2, fun k t hk => ?_⟩
    have hkl := (List.getElem?_eq_some_iff.mp hk).1
    have := y3 k t hk
    rw [f01.I (by unfold XFm; omega), f01.I (by unfold XFm; omega), f01.I (by unfold XFm; omega)]
    exact this
  clear f1 t0
  generalize hM0 : sI M 457 0 0 = M0 at *
  generalize hl : (plT tp).2.1 = l at *
  have g6 : gI M1 457 6 = nI tp.length := t1.1
  have f2 : Fw (fun c j => c = 457 ∧ j = 6) M1 (sI M1 457 6 0) := Fw.s ⟨rfl, rfl⟩
  have m25 : gI (sI M1 457 6 0) 457 25 = nI PL.length := (gI_j (by omega)).trans h25
  have m463 : ∀ k, gI (sI M1 457 6 0) 463 k = gI M1 463 k := fun k => gI_o (by omega)
  have m464 : ∀ k, gI (sI M1 457 6 0) 464 k = gI M1 464 k := fun k => gI_o (by omega)
  have m6 : gI (sI M1 457 6 0) 457 6 = 0 := gI_e
  have w2 := f2.2 w1
  generalize hM2 : sI M1 457 6 0 = M2 at *
  have P4 : (nI PL.length = 4) = False := by rw [show (4 : Int32) = nI 4 from rfl, nI_eqE (by omega) (by omega)]; exact eq_false (by omega)
  have m48 : (48 : Int32) * nI PL.length = nI (48 * PL.length) := by rw [show (48 : Int32) = nI 48 from rfl, pk_mul]
  have n192 : (192 : Int32) = nI 192 := rfl
  have n48 : ((48 : Int32) ≤ nI 48) = True := eq_true (by decide)
  -- the steps are copied, from the draft's places to their own
  have lp := fun d (Q : am_Q) => loop0 (P := fun k => ok d mX11_text 488 Q 488 0 0 137 [some (.ref 457), some (.int 2), some (.int (nI tp.length)), some (.int (nI k))] [] (fr M2 463 (48 * PL.length) (48 * PL.length + k) (fun j => gI M1 463 (192 + (j - 48 * PL.length))))) (n := 48) (fun k hk => by
    have e9 : ((48 : Int32) ≤ nI k) = False := by rw [show (48 : Int32) = nI 48 from rfl, nI_leE (by omega) (by omega)]; exact eq_false (by omega)
    have g3 : gI (fr M2 463 (48 * PL.length) (48 * PL.length + k) (fun j => gI M1 463 (192 + (j - 48 * PL.length)))) 463 (192 + k) = gI M1 463 (192 + k) := by
      rw [gI_fr', if_neg (by omega)]; exact m463 _
    have g7 : gI (fr M2 463 (48 * PL.length) (48 * PL.length + k) (fun j => gI M1 463 (192 + (j - 48 * PL.length)))) 457 25 = nI PL.length := by rw [gI_fro (by omega)]; exact m25
    have sw : sI (fr M2 463 (48 * PL.length) (48 * PL.length + k) (fun j => gI M1 463 (192 + (j - 48 * PL.length)))) 463 (48 * PL.length + k) (gI M1 463 (192 + k)) = fr M2 463 (48 * PL.length) (48 * PL.length + (k + 1)) (fun j => gI M1 463 (192 + (j - 48 * PL.length))) := M_ext (fun b i => by
      rw [gI_sI, gI_fr', gI_fr']
      by_cases z : b = 463 ∧ i = 48 * PL.length + k
      · rw [if_pos z, if_pos (by omega), z.2, show 192 + (48 * PL.length + k - 48 * PL.length) = 192 + k by omega]
      · rw [if_neg z]
        by_cases z2 : b = 463 ∧ 48 * PL.length ≤ i ∧ i < 48 * PL.length + k
        · rw [if_pos z2, if_pos (by omega)]
        · rw [if_neg z2, if_neg (by omega)]) (fun _ _ => rfl) (fun _ _ => rfl)
    have cx : (nI (48 * PL.length + k)).toNatClampNeg = 48 * PL.length + k := nI_clamp (by omega)
    have cy : (nI (192 + k)).toNatClampNeg = 192 + k := nI_clamp (by omega)
    have i8 := fun (M : am_M) => in_463 (M := M) (k := 192 + k) (by omega)
    have i9 := iw_463 (k := 48 * PL.length + k) (by omega)
    show ok d mX11_text 488 Q 488 0 0 137 _ [] _ = ok d mX11_text 488 Q 488 0 0 137 _ [] _
    rw [sX11_text_137]
    simp (disch := (first | assumption | omega | decide)) only [sX11_text_0, sX11_text_1, sX11_text_2, sX11_text_5, sX11_text_6, sX11_text_7, sX11_text_8, sX11_text_11, sX11_text_14, sX11_text_17, sX11_text_18, sX11_text_19, sX11_text_22, sX11_text_23, sX11_text_26, sX11_text_27, sX11_text_30, sX11_text_31, sX11_text_32, sX11_text_35, sX11_text_36, sX11_text_39, sX11_text_40, sX11_text_43, sX11_text_44, sX11_text_45, sX11_text_48, sX11_text_49, sX11_text_52, sX11_text_53, sX11_text_54, sX11_text_55, sX11_text_58, sX11_text_59, sX11_text_60, sX11_text_61, sX11_text_64, sX11_text_65, sX11_text_66, sX11_text_69, sX11_text_70, sX11_text_72, sX11_text_73, sX11_text_76, sX11_text_77, sX11_text_80, sX11_text_83, sX11_text_84, sX11_text_87, sX11_text_88, sX11_text_89, sX11_text_90, sX11_text_91, sX11_text_94, sX11_text_95, sX11_text_96, sX11_text_97, sX11_text_100, sX11_text_103, sX11_text_104, sX11_text_107, sX11_text_108, sX11_text_111, sX11_text_112, sX11_text_113, sX11_text_114, sX11_text_115, sX11_text_118, sX11_text_119, sX11_text_120, sX11_text_123, sX11_text_124, sX11_text_127, sX11_text_128, sX11_text_129, sX11_text_130, sX11_text_131, sX11_text_132, sX11_text_135, sX11_text_136, sX11_text_138, sX11_text_140, sX11_text_143, sX11_text_144, sX11_text_147, sX11_text_149, sX11_text_150, sX11_text_153, sX11_text_154, sX11_text_155, sX11_text_156, sX11_text_157, sX11_text_160, sX11_text_163, sX11_text_164, sX11_text_165, sX11_text_166, sX11_text_167, sX11_text_170, sX11_text_173, sX11_text_174, sX11_text_177, sX11_text_178, sX11_text_181, sX11_text_182, sX11_text_185, sX11_text_186, sX11_text_187, sX11_text_188, sX11_text_189, sX11_text_190, sX11_text_193, sX11_text_194, sX11_text_195, sX11_text_198, sX11_text_199, sX11_text_202, sX11_text_203, sX11_text_204, sX11_text_205, sX11_text_206, sX11_text_207, sX11_text_210, sX11_text_213, sX11_text_214, sX11_text_215, sX11_text_218, sX11_text_221, sX11_text_222, sX11_text_224, sX11_text_227, sX11_text_230, sX11_text_231, sX11_text_234, sX11_text_235, sX11_text_236, sX11_text_237, sX11_text_240, sX11_text_243, sX11_text_244, sX11_text_246, sX11_text_247, sX11_text_250, sX11_text_253, sX11_text_254, sX11_text_257, sX11_text_259, sX11_text_260, sX11_text_261, sX11_text_262, sX11_text_265, sX11_text_266, sX11_text_267, sX11_text_268, sX11_text_269, sX11_text_270, sX11_text_271, sX11_text_274, sX11_text_276, sX11_text_277, sX11_text_278, sX11_text_279, sX11_text_282, sX11_text_283, sX11_text_284, sX11_text_285, sX11_text_286, sX11_text_287, sX11_text_288, sX11_text_289, sX11_text_290, sX11_text_291, sX11_text_292, sX11_text_295, sX11_text_298, sX11_text_299, sX11_text_300, sX11_text_303, sX11_text_304, sX11_text_305, sX11_text_308, sX11_text_309, sX11_text_310, sX11_text_313, sX11_text_314, sX11_text_317, kI_i, kL_l, kV_v, am_rv_s, am_kl_i, am_kl_r, am_kl_n, am_kl_l, true_and, and_true, and_self, true_or, or_true, implies_true, forall_const, not_true_eq_false, not_false_eq_true, false_implies, true_implies, if_true, if_false, Bool.true_eq_false, Bool.false_eq_true, e9, ob_457, gR_fr, r_457_19, g7, m48, n192, nI_add, i8, i9, cx, cy, g3, sw, nI_1])
  have f3 : Fw (fun c j => c = 463 ∧ j < 192) M2 (fr M2 463 (48 * PL.length) (48 * PL.length + 48) (fun j => gI M1 463 (192 + (j - 48 * PL.length)))) := ⟨fun b i hb => ⟨by rw [gI_fr', if_neg (by omega)], rfl, rfl⟩, fun h => h⟩
  have e0 : fr M2 463 (48 * PL.length) (48 * PL.length + 0) (fun j => gI M1 463 (192 + (j - 48 * PL.length))) = M2 := M_ext (fun b i => by rw [gI_fr', if_neg (by omega)]) (fun _ _ => rfl) (fun _ _ => rfl)
  have gc : ∀ i, i < 48 → gI (fr M2 463 (48 * PL.length) (48 * PL.length + 48) (fun j => gI M1 463 (192 + (j - 48 * PL.length)))) 463 (48 * PL.length + i) = gI M1 463 (192 + i) := fun i hi => by
    rw [gI_fr', if_pos (by omega), show 192 + (48 * PL.length + i - 48 * PL.length) = 192 + i by omega]
  have gu : ∀ i, i < 48 * PL.length → gI (fr M2 463 (48 * PL.length) (48 * PL.length + 48) (fun j => gI M1 463 (192 + (j - 48 * PL.length)))) 463 i = gI M1 463 i := fun i hi => by
    rw [gI_fr', if_neg (by omega)]; exact m463 i
  have w3 := f3.2 w2
  generalize hM3 : fr M2 463 (48 * PL.length) (48 * PL.length + 48) (fun j => gI M1 463 (192 + (j - 48 * PL.length))) = M3 at *
  have g7' : gI M3 457 25 = nI PL.length := (f3.I (by omega)).trans m25
  have g464 : gI M3 464 4 = nI l.length := by rw [f3.I (by omega), m464]; exact r1
  have g7s : gI (sI M3 464 PL.length (nI l.length)) 457 25 = nI PL.length := (gI_o (by omega)).trans g7'
  have g7e : gI (sI (sI M3 464 PL.length (nI l.length)) 457 25 (nI (PL.length + 1))) 457 25 = nI (PL.length + 1) := gI_e
  have sb : nI (PL.length + 1) - 1 = nI PL.length := by rw [nI_sub1 (by omega)]; rfl
  have cl : (nI PL.length).toNatClampNeg = PL.length := nI_clamp (by omega)
  have w64 := iw_464 (k := PL.length) (by omega)
  have i64 : ∀ {M : am_M}, am_in 488 M 464 1 4 = True := in_464 (k := 4) (by omega)
  have c4' : (4 : Int32).toNatClampNeg = 4 := rfl
  have n20 : ((2 : Int32) = 0) = False := by simp
  have n21 : ((2 : Int32) = 1) = False := by simp
  have i22 : ((2 : Int32) = 2) = True := eq_true rfl
  have mm : ((-1 : Int32) = -1) = True := eq_true rfl
  have f4 : Fw XM2 M3 (sI (sI M3 464 PL.length (nI l.length)) 457 25 (nI (PL.length + 1))) := (Fw.s (by unfold XM2; omega)).tr (Fw.s (by unfold XM2; omega))
  refine ⟨sI (sI M3 464 PL.length (nI l.length)) 457 25 (nI (PL.length + 1)), fun Q => ?_, ⟨?_, by simp, fun k hk => by cases hk⟩, ⟨?_, ?_, fun i hi => ?_⟩, (((f01.mo (fun c j z => Or.inl z)).tr (f2.mo (fun c j z => by omega))).tr (f3.mo (fun c j z => by omega))).tr f4⟩
  · have lq := lp (d' + 5) Q
    rw [e0] at lq
    have lp' : ok (d' + 5) mX11_text 488 Q 488 0 0 137 [some (.ref 457), some (.int 2), some (.int (nI tp.length)), some (.int 0)] [] M2 = _ := lq
    rw [eX11_text]
    simp (disch := (first | assumption | omega | decide)) only [sX11_text_0, sX11_text_1, sX11_text_2, sX11_text_5, sX11_text_6, sX11_text_7, sX11_text_8, sX11_text_11, sX11_text_14, sX11_text_17, sX11_text_18, sX11_text_19, sX11_text_22, sX11_text_23, sX11_text_26, sX11_text_27, sX11_text_30, sX11_text_31, sX11_text_32, sX11_text_35, sX11_text_36, sX11_text_39, sX11_text_40, sX11_text_43, sX11_text_44, sX11_text_45, sX11_text_48, sX11_text_49, sX11_text_52, sX11_text_53, sX11_text_54, sX11_text_55, sX11_text_58, sX11_text_59, sX11_text_60, sX11_text_61, sX11_text_64, sX11_text_65, sX11_text_66, sX11_text_69, sX11_text_70, sX11_text_72, sX11_text_73, sX11_text_76, sX11_text_77, sX11_text_80, sX11_text_83, sX11_text_84, sX11_text_87, sX11_text_88, sX11_text_89, sX11_text_90, sX11_text_91, sX11_text_94, sX11_text_95, sX11_text_96, sX11_text_97, sX11_text_100, sX11_text_103, sX11_text_104, sX11_text_107, sX11_text_108, sX11_text_111, sX11_text_112, sX11_text_113, sX11_text_114, sX11_text_115, sX11_text_118, sX11_text_119, sX11_text_120, sX11_text_123, sX11_text_124, sX11_text_127, sX11_text_128, sX11_text_129, sX11_text_130, sX11_text_131, sX11_text_132, sX11_text_135, sX11_text_136, sX11_text_138, sX11_text_140, sX11_text_143, sX11_text_144, sX11_text_147, sX11_text_149, sX11_text_150, sX11_text_153, sX11_text_154, sX11_text_155, sX11_text_156, sX11_text_157, sX11_text_160, sX11_text_163, sX11_text_164, sX11_text_165, sX11_text_166, sX11_text_167, sX11_text_170, sX11_text_173, sX11_text_174, sX11_text_177, sX11_text_178, sX11_text_181, sX11_text_182, sX11_text_185, sX11_text_186, sX11_text_187, sX11_text_188, sX11_text_189, sX11_text_190, sX11_text_193, sX11_text_194, sX11_text_195, sX11_text_198, sX11_text_199, sX11_text_202, sX11_text_203, sX11_text_204, sX11_text_205, sX11_text_206, sX11_text_207, sX11_text_210, sX11_text_213, sX11_text_214, sX11_text_215, sX11_text_218, sX11_text_221, sX11_text_222, sX11_text_224, sX11_text_227, sX11_text_230, sX11_text_231, sX11_text_234, sX11_text_235, sX11_text_236, sX11_text_237, sX11_text_240, sX11_text_243, sX11_text_244, sX11_text_246, sX11_text_247, sX11_text_250, sX11_text_253, sX11_text_254, sX11_text_257, sX11_text_259, sX11_text_260, sX11_text_261, sX11_text_262, sX11_text_265, sX11_text_266, sX11_text_267, sX11_text_268, sX11_text_269, sX11_text_270, sX11_text_271, sX11_text_274, sX11_text_276, sX11_text_277, sX11_text_278, sX11_text_279, sX11_text_282, sX11_text_283, sX11_text_284, sX11_text_285, sX11_text_286, sX11_text_287, sX11_text_288, sX11_text_289, sX11_text_290, sX11_text_291, sX11_text_292, sX11_text_295, sX11_text_298, sX11_text_299, sX11_text_300, sX11_text_303, sX11_text_304, sX11_text_305, sX11_text_308, sX11_text_309, sX11_text_310, sX11_text_313, sX11_text_314, sX11_text_317, kI_i, kL_l, kV_v, am_rv_s, am_kl_i, am_kl_r, am_kl_n, am_kl_l, true_and, and_true, and_self, true_or, or_true, implies_true, forall_const, not_true_eq_false, not_false_eq_true, false_implies, true_implies, if_true, if_false, Bool.true_eq_false, Bool.false_eq_true, ob_457, hM0, c64_0, c64_2, m_isIn, isin02.2.2, bz_t, i01, i22, n21, g25, P4, e1, mm, g6, hM2, lp']
    rw [sX11_text_137]
    simp (disch := (first | assumption | omega | decide)) only [sX11_text_0, sX11_text_1, sX11_text_2, sX11_text_5, sX11_text_6, sX11_text_7, sX11_text_8, sX11_text_11, sX11_text_14, sX11_text_17, sX11_text_18, sX11_text_19, sX11_text_22, sX11_text_23, sX11_text_26, sX11_text_27, sX11_text_30, sX11_text_31, sX11_text_32, sX11_text_35, sX11_text_36, sX11_text_39, sX11_text_40, sX11_text_43, sX11_text_44, sX11_text_45, sX11_text_48, sX11_text_49, sX11_text_52, sX11_text_53, sX11_text_54, sX11_text_55, sX11_text_58, sX11_text_59, sX11_text_60, sX11_text_61, sX11_text_64, sX11_text_65, sX11_text_66, sX11_text_69, sX11_text_70, sX11_text_72, sX11_text_73, sX11_text_76, sX11_text_77, sX11_text_80, sX11_text_83, sX11_text_84, sX11_text_87, sX11_text_88, sX11_text_89, sX11_text_90, sX11_text_91, sX11_text_94, sX11_text_95, sX11_text_96, sX11_text_97, sX11_text_100, sX11_text_103, sX11_text_104, sX11_text_107, sX11_text_108, sX11_text_111, sX11_text_112, sX11_text_113, sX11_text_114, sX11_text_115, sX11_text_118, sX11_text_119, sX11_text_120, sX11_text_123, sX11_text_124, sX11_text_127, sX11_text_128, sX11_text_129, sX11_text_130, sX11_text_131, sX11_text_132, sX11_text_135, sX11_text_136, sX11_text_138, sX11_text_140, sX11_text_143, sX11_text_144, sX11_text_147, sX11_text_149, sX11_text_150, sX11_text_153, sX11_text_154, sX11_text_155, sX11_text_156, sX11_text_157, sX11_text_160, sX11_text_163, sX11_text_164, sX11_text_165, sX11_text_166, sX11_text_167, sX11_text_170, sX11_text_173, sX11_text_174, sX11_text_177, sX11_text_178, sX11_text_181, sX11_text_182, sX11_text_185, sX11_text_186, sX11_text_187, sX11_text_188, sX11_text_189, sX11_text_190, sX11_text_193, sX11_text_194, sX11_text_195, sX11_text_198, sX11_text_199, sX11_text_202, sX11_text_203, sX11_text_204, sX11_text_205, sX11_text_206, sX11_text_207, sX11_text_210, sX11_text_213, sX11_text_214, sX11_text_215, sX11_text_218, sX11_text_221, sX11_text_222, sX11_text_224, sX11_text_227, sX11_text_230, sX11_text_231, sX11_text_234, sX11_text_235, sX11_text_236, sX11_text_237, sX11_text_240, sX11_text_243, sX11_text_244, sX11_text_246, sX11_text_247, sX11_text_250, sX11_text_253, sX11_text_254, sX11_text_257, sX11_text_259, sX11_text_260, sX11_text_261, sX11_text_262, sX11_text_265, sX11_text_266, sX11_text_267, sX11_text_268, sX11_text_269, sX11_text_270, sX11_text_271, sX11_text_274, sX11_text_276, sX11_text_277, sX11_text_278, sX11_text_279, sX11_text_282, sX11_text_283, sX11_text_284, sX11_text_285, sX11_text_286, sX11_text_287, sX11_text_288, sX11_text_289, sX11_text_290, sX11_text_291, sX11_text_292, sX11_text_295, sX11_text_298, sX11_text_299, sX11_text_300, sX11_text_303, sX11_text_304, sX11_text_305, sX11_text_308, sX11_text_309, sX11_text_310, sX11_text_313, sX11_text_314, sX11_text_317, kI_i, kL_l, kV_v, am_rv_s, am_kl_i, am_kl_r, am_kl_n, am_kl_l, true_and, and_true, and_self, true_or, or_true, implies_true, forall_const, not_true_eq_false, not_false_eq_true, false_implies, true_implies, if_true, if_false, Bool.true_eq_false, Bool.false_eq_true, ob_457, n48, r_457_20, g7', i64, c4', g464, w64, cl, g7s, nI_1, g7e, sb]
  · rw [gI_j (by omega), gI_o (by omega), f3.I (by omega)]; exact m6
  · rw [gI_e, List.length_append]; rfl
  · rw [List.length_append]; simp; omega
  · rw [List.length_append] at hi
    have hi' : i < PL.length + 1 := hi
    by_cases q : i = PL.length
    · subst q
      have ei : (PL ++ [l])[PL.length] = l := by simp
      rw [ei]
      refine ⟨?_, hln, fun k t hk => ?_⟩
      · rw [gI_o (by omega), gI_e]
      · have hkl := (List.getElem?_eq_some_iff.mp hk).1
        have := r2 k t hk
        rw [gI_o (by omega), gI_o (by omega), gI_o (by omega), gI_o (by omega), gI_o (by omega), gI_o (by omega), show 48 * PL.length + 3 * k + 1 = 48 * PL.length + (3 * k + 1) by omega, show 48 * PL.length + 3 * k + 2 = 48 * PL.length + (3 * k + 2) by omega, gc _ (by omega), gc _ (by omega), gc _ (by omega), ← Nat.add_assoc, ← Nat.add_assoc]
        exact this
    · have hil : i < PL.length := by omega
      have ei : (PL ++ [l])[i] = PL[i] := List.getElem_append_left hil
      rw [ei]
      obtain ⟨y1, y2, y3⟩ := hb1 i hil
      refine ⟨?_, y2, fun k t hk => ?_⟩
      · rw [gI_o (by omega), gI_j (by omega), f3.I (by omega), f2.I (by omega)]; exact y1
      · have hkl := (List.getElem?_eq_some_iff.mp hk).1
        have := y3 k t hk
        rw [gI_o (by omega), gI_o (by omega), gI_o (by omega), gI_o (by omega), gI_o (by omega), gI_o (by omega), gu _ (by omega), gu _ (by omega), gu _ (by omega)]
        exact this
end
