/-! what stands between two calls, in both -/
def KC (c j : Nat) : Prop := (c = 0 ∧ (j = 4 ∨ j = 9 ∨ j = 16)) ∨ (c = 1 ∧ j = 1) ∨ c = 2 ∨ (3 ≤ c ∧ c ≤ 11) ∨ (c = 12 ∧ (j = 5 ∨ j = 8)) ∨ (c = 13 ∧ j = 3) ∨ (21 ≤ c ∧ c ≤ 30) ∨ (32 ≤ c ∧ c ≤ 392) ∨ (395 ≤ c ∧ c ≤ 405 ∧ c ≠ 397 ∧ c ≠ 400 ∧ c ≠ 403) ∨ (c = 435 ∧ j = 4) ∨ (436 ≤ c ∧ c ≤ 438) ∨ (441 ≤ c ∧ c ≤ 456)
def KM0 (c j : Nat) : Prop := (c = 457 ∧ (j = 6 ∨ j = 21 ∨ j = 23 ∨ j = 25 ∨ j = 30 ∨ j = 41 ∨ j = 52 ∨ j = 54)) ∨ c = 458 ∨ (c = 463 ∧ j < 192) ∨ (c = 464 ∧ j < 4) ∨ c = 465 ∨ c = 476 ∨ c = 485 ∨ c = 486
def KML (c j : Nat) : Prop := (c = 457 ∧ (j = 7 ∨ j = 29)) ∨ c = 459 ∨ c = 460 ∨ c = 461 ∨ c = 479 ∨ c = 480
def IC (M : am_M) (tp : List Nat) (ap lim : Nat) (S : Sg) (P : List Sg) (im : Option Sg) (LL : List (List Nat)) (h : Int32) (PL : List (List Dd)) (hv : Int32) (L : List Sn) : Prop := TC M tp ∧ DrC M ∧ StC M 3 ap lim S ∧ PaC M ap lim P ∧ ImC M ap lim im ∧ LbC M LL h ∧ PlC M PL ∧ gI M 0 16 = hv ∧ SeC M L
def IM (M : am_M) (tp : List Nat) (ap lim : Nat) (S : Sg) (P : List Sg) (im : Option Sg) (LL : List (List Nat)) (h : Int32) (PL : List (List Dd)) (hv : Int32) (L : List Sn) : Prop := TM M tp ∧ StM M 465 0 ap S ∧ PaM M ap P ∧ (gI M 457 23 = nI ap ∧ gI M 457 21 = nI lim) ∧ ImM M ap im ∧ LbM M LL h ∧ PlM M PL ∧ gI M 457 30 = hv ∧ SeM M L
def SgP (S : Sg) : Prop := WFl S.1 ∧ T3 S.1
def OKs (tp : List Nat) (ap lim lm : Nat) (S : Sg) (P : List Sg) (im : Option Sg) : Prop := tpK tp ∧ lim ≤ 12 ∧ lm ≤ 12 ∧ (ap = 0 ∨ lim = lm) ∧ SgP S ∧ (∀ p, p ∈ P → SgP p) ∧ ∀ I, im = some I → SgP I
def IV (sc : Nat → Int32) (M : am_M) : Prop := WR M ∧ (∀ j, gI M 2000000 j = sc j) ∧ ∃ tp ap lim lm S P im LL h PL hv L, IC M tp ap lim S P im LL h PL hv L ∧ IM M tp ap lm S P im LL h PL hv L ∧ OKs tp ap lim lm S P im
def BB (sc : Nat → Int32) (M : am_M) (yc ym : am_Y) (as : List Value) : Prop := ∃ r M1 M2, (∀ Q, am_big 40 yc (.ref 0 :: as) 488 M Q = Q (some (.int r)) M1) ∧ (∀ Q, am_big 40 ym (.ref 457 :: as) 488 M1 Q = Q (some (.int r)) M2) ∧ (∀ j, gI M1 2000000 j = sc j) ∧ IV sc M2
section
variable {M N : am_M} {tp : List Nat} {ap lim lm : Nat} {S S' : Sg} {P P' : List Sg} {im : Option Sg} {LL : List (List Nat)} {h : Int32} {PL : List (List Dd)} {hv : Int32} {L : List Sn} {X : Nat → Nat → Prop}
theorem TC_Fw (hF : Fw X M N) (hX : ∀ c j, ((c = 1 ∧ j = 1) ∨ c = 2) → ¬ X c j) (h : TC M tp) : TC N tp := ⟨(hF.I (hX _ _ (by omega))).trans h.1, h.2.1, fun k hk => (hF.I (hX _ _ (by omega))).trans (h.2.2 k hk)⟩
theorem TM_Fw (hF : Fw X M N) (hX : ∀ c j, ((c = 457 ∧ j = 6) ∨ c = 458) → ¬ X c j) (h : TM M tp) : TM N tp := ⟨(hF.I (hX _ _ (by omega))).trans h.1, h.2.1, fun k hk => (hF.I (hX _ _ (by omega))).trans (h.2.2 k hk)⟩
theorem DrC_Fw (hF : Fw X M N) (hX : ∀ c j, ((c = 12 ∧ (j = 5 ∨ j = 8)) ∨ (c = 13 ∧ j = 3)) → ¬ X c j) (h : DrC M) : DrC N := ⟨(hF.I (hX _ _ (by omega))).trans h.1, (hF.I (hX _ _ (by omega))).trans h.2.1, (hF.I (hX _ _ (by omega))).trans h.2.2⟩
theorem ImC_Fw (hF : Fw X M N) (hX : ∀ c j, ((c = 0 ∧ j = 4) ∨ (21 ≤ c ∧ c ≤ 29)) → ¬ X c j) (h : ImC M ap lim im) : ImC N ap lim im := ⟨(hF.I (hX _ _ (by omega))).trans h.1, fun I e => StC_Fw hF (fun c j x y => hX c j (by omega)) (h.2 I e)⟩
theorem ImM_Fw (hF : Fw X M N) (hX : ∀ c j, ((c = 457 ∧ j = 54) ∨ c = 486) → ¬ X c j) (h : ImM M ap im) : ImM N ap im := ⟨(hF.I (hX _ _ (by omega))).trans h.1, fun I e => StM_Fw hF (fun j => hX _ j (by omega)) (h.2 I e)⟩
theorem PlC_Fw (hF : Fw X M N) (hX : ∀ c j, ((c = 0 ∧ j = 9) ∨ (441 ≤ c ∧ c ≤ 456)) → ¬ X c j) (h : PlC M PL) : PlC N PL := ⟨(hF.I (hX _ _ (by omega))).trans h.1, h.2.1, fun i hi => by
  have := h.2.1
  exact LH_of (fun c j x y => hF.I (hX c j (by omega))) (fun c j x y => hF.R (hX c j (by omega))) (h.2.2 i hi)⟩
theorem PlM_Fw (hF : Fw X M N) (hX : ∀ c j, ((c = 457 ∧ j = 25) ∨ (c = 463 ∧ j < 192) ∨ (c = 464 ∧ j < 4)) → ¬ X c j) (h : PlM M PL) : PlM N PL := ⟨(hF.I (hX _ _ (by omega))).trans h.1, h.2.1, fun i hi => by
  have := h.2.1
  obtain ⟨y1, y2, y3⟩ := h.2.2 i hi
  refine ⟨(hF.I (hX _ _ (by omega))).trans y1, y2, fun k t hk => ?_⟩
  have hkl := (List.getElem?_eq_some_iff.mp hk).1
  rw [hF.I (hX _ _ (by omega)), hF.I (hX _ _ (by omega)), hF.I (hX _ _ (by omega))]
  exact y3 k t hk⟩
theorem IC_K (hF : Fw X M N) (hX : ∀ c j, KC c j → ¬ X c j) (hC : IC M tp ap lim S P im LL h PL hv L) : IC N tp ap lim S P im LL h PL hv L := by
  obtain ⟨h1, h2, h3, h4, h5, h6, h7, h8, h9⟩ := hC
  refine ⟨TC_Fw hF (fun c j z => hX c j ?_) h1, DrC_Fw hF (fun c j z => hX c j ?_) h2, StC_Fw hF (fun c j x y => hX c j ?_) h3, PaC_Fw hF (fun c j z => hX c j ?_) h4, ImC_Fw hF (fun c j z => hX c j ?_) h5, LbC_Fw hF (fun c j z => hX c j ?_) h6, PlC_Fw hF (fun c j z => hX c j ?_) h7, (hF.I (hX _ _ ?_)).trans h8, SeC_Fw hF (fun c j z => hX c j ?_) h9⟩ <;> unfold KC <;> omega
theorem IM_KL (hF : Fw X M N) (hX : ∀ c j, KM0 c j → ¬ X c j) (hb : LbM N LL h) (hM : IM M tp ap lim S P im LL h PL hv L) : IM N tp ap lim S P im LL h PL hv L := by
  obtain ⟨h1, h2, h3, ⟨h4, h4'⟩, h5, h6, h7, h8, h9⟩ := hM
  refine ⟨TM_Fw hF (fun c j z => hX c j ?_) h1, StM_Fw hF (fun j => hX _ j ?_) h2, PaM_Fw hF (fun j => hX _ j ?_) (hX _ _ ?_) h3, ⟨(hF.I (hX _ _ ?_)).trans h4, (hF.I (hX _ _ ?_)).trans h4'⟩, ImM_Fw hF (fun c j z => hX c j ?_) h5, hb, PlM_Fw hF (fun c j z => hX c j ?_) h7, (hF.I (hX _ _ ?_)).trans h8, SeM_Fw hF (fun c j z => hX c j ?_) h9⟩ <;> unfold KM0 <;> omega
theorem IM_K (hF : Fw X M N) (hX : ∀ c j, KM0 c j ∨ KML c j → ¬ X c j) (hM : IM M tp ap lim S P im LL h PL hv L) : IM N tp ap lim S P im LL h PL hv L := IM_KL hF (fun c j z => hX c j (Or.inl z)) (LbM_Fw hF (fun c j z => hX c j (Or.inr z)) hM.2.2.2.2.2.1) hM
theorem IC_M (hF : Fw X M N) (hX : ∀ c j, X c j → 457 ≤ c) (hC : IC M tp ap lim S P im LL h PL hv L) : IC N tp ap lim S P im LL h PL hv L := IC_K hF (fun c j z w => by have := hX c j w; unfold KC at z; omega) hC
theorem IM_C (hF : Fw X M N) (hX : ∀ c j, X c j → c < 457) (hM : IM M tp ap lim S P im LL h PL hv L) : IM N tp ap lim S P im LL h PL hv L := IM_K hF (fun c j z w => by have := hX c j w; unfold KM0 KML at z; omega) hM
theorem SC_F {sc : Nat → Int32} (hF : Fw X M N) (hX : ∀ j, ¬ X 2000000 j) (hs : ∀ j, gI M 2000000 j = sc j) : ∀ j, gI N 2000000 j = sc j := fun j => (hF.I (hX j)).trans (hs j)
/-- an act of the class: the state and the past are new -/
theorem IC_act (hF : Fw XY M N) (hS : StC N 3 ap lim S') (hP : PaC N ap lim P') (hC : IC M tp ap lim S P im LL h PL hv L) : IC N tp ap lim S' P' im LL h PL hv L := by
  obtain ⟨h1, h2, h3, h4, h5, h6, h7, h8, h9⟩ := hC
  refine ⟨TC_Fw hF (fun c j z => ?_) h1, DrC_Fw hF (fun c j z => ?_) h2, hS, hP, ImC_Fw hF (fun c j z => ?_) h5, LbC_Fw hF (fun c j z => ?_) h6, PlC_Fw hF (fun c j z => ?_) h7, (hF.I ?_).trans h8, SeC_Fw hF (fun c j z => ?_) h9⟩ <;> unfold XY XA XP2 <;> omega
theorem IM_act (hF : Fw XMY M N) (hS : StM N 465 0 ap S') (hP : PaM N ap P') (hM : IM M tp ap lim S P im LL h PL hv L) : IM N tp ap lim S' P' im LL h PL hv L := by
  obtain ⟨h1, h2, h3, ⟨h4, h4'⟩, h5, h6, h7, h8, h9⟩ := hM
  refine ⟨TM_Fw hF (fun c j z => ?_) h1, hS, hP, ⟨(hF.I ?_).trans h4, (hF.I ?_).trans h4'⟩, ImM_Fw hF (fun c j z => ?_) h5, LbM_Fw hF (fun c j z => ?_) h6, PlM_Fw hF (fun c j z => ?_) h7, (hF.I ?_).trans h8, SeM_Fw hF (fun c j z => ?_) h9⟩ <;> unfold XMY XM XS <;> omega
theorem XA_C (c j : Nat) (z : XY c j) : c < 457 := by unfold XY XA XP2 at z; omega
theorem XMY_M (c j : Nat) (z : XMY c j) : 457 ≤ c := by unfold XMY XM XS at z; omega
theorem RS_of (hW : WR M) (hC : IC M tp ap lim S P im LL h PL hv L) (hM : IM M tp ap lm S P im LL h PL hv L) (hO : OKs tp ap lim lm S P im) : RS M ap lm S P := ⟨hW, hM.2.1, hM.2.2.1, hM.2.2.2.1.1, hM.2.2.2.1.2, hO.2.2.2.2.1.1, hO.2.2.1, hC.2.2.1.2.2.2.2.2.2.2.2⟩
theorem opn_l (h : ap = 0 ∨ lim = lm) (ho : opn ap = true) : lim = lm := by
  rcases h with rfl | h
  · exact absurd ho (by decide)
  · exact h
theorem mkA_l (h : ap = 0 ∨ lim = lm) (so pa x : Int32) : mkA ap lm S so pa x = mkA ap lim S so pa x := by
  rcases h with rfl | rfl
  · rfl
  · rfl
theorem runA_l (h : ap = 0 ∨ lim = lm) (k w : Int32) : runA ap lm S PL k w = runA ap lim S PL k w := by
  rcases h with rfl | rfl
  · unfold runA; rw [if_neg (fun z => absurd z.1 (by decide)), if_neg (fun z => absurd z.1 (by decide))]
  · rfl
theorem perfA_l (h : ap = 0 ∨ lim = lm) (k : Int32) : perfA ap lm S P PL k = perfA ap lim S P PL k := by
  rcases h with rfl | rfl
  · unfold perfA; rw [if_neg (fun z => absurd z.1 (by decide)), if_neg (fun z => absurd z.1 (by decide))]
  · rfl
theorem alikeA_l (h : ap = 0 ∨ lim = lm) (k o : Int32) : alikeA ap lm PL k o = alikeA ap lim PL k o := by
  rcases h with rfl | rfl
  · unfold alikeA; rw [if_neg (fun z => absurd z.1 (by decide)), if_neg (fun z => absurd z.1 (by decide))]
  · rfl
theorem yearsA_l (h : ap = 0 ∨ lim = lm) (n : Int32) (sd : Int64) : yearsA ap lm hv S P n sd = yearsA ap lim hv S P n sd := by
  rcases h with rfl | rfl
  · unfold yearsA; rw [if_neg (fun z => absurd z.1 (by decide)), if_neg (fun z => absurd z.1 (by decide))]
  · rfl
theorem countA_l (h : ap = 0 ∨ lim = lm) {a2 a3 a4 a5 a8 v : Int32} {nL nP : Nat} : countA ap lm S a2 a3 a4 a5 a8 nL nP v = countA ap lim S a2 a3 a4 a5 a8 nL nP v := by
  rcases h with rfl | rfl
  · have o : ¬ opn 0 = true := by decide
    unfold countA
    rw [if_neg o, if_neg o]
  · rfl
-- what acts keep
theorem paA_P {S : Sg} (hP : ∀ p, p ∈ P → SgP p) (hS : SgP S) : ∀ p, p ∈ paA P S → SgP p := fun p hp => by
  unfold paA at hp
  rw [List.mem_append, List.mem_singleton] at hp
  rcases hp with hp | rfl
  · split at hp
    · exact hP p (List.mem_of_mem_drop hp)
    · exact hP p hp
  · exact hS
theorem SgP_do {so pa x : Int32} (hS : SgP S) (hc : cbL S.1 so pa x = true) : SgP (doS (tS S) so pa x) := ⟨(WF_add hS.1 hc).1, T3_add hS.2 hc⟩
theorem SgP_mk {so pa x : Int32} (hS : SgP S) (hc : mkA ap lim S so pa x = true) : SgP (doS (tS S) so pa x) := by
  unfold mkA at hc
  rw [Bool.and_eq_true, Bool.and_eq_true] at hc
  exact SgP_do hS hc.2.2
theorem SgP_tk {e : Nat} (hS : SgP S) (he : e < S.1.length) : SgP (tkS (tS S) e) := ⟨WF_erase hS.1 he, T3_erase he hS.2⟩
theorem SgP_tkA {e : Nat} (hS : SgP S) (hc : tkA ap S e = true) : SgP (tkS (tS S) e) := by
  unfold tkA at hc
  rw [Bool.and_eq_true, Bool.and_eq_true, decide_eq_true_eq] at hc
  exact SgP_tk hS hc.2.1
theorem OKs_act (hO : OKs tp ap lim lm S P im) (hS : SgP S') (hP : ∀ p, p ∈ P' → SgP p) : OKs tp ap lim lm S' P' im := ⟨hO.1, hO.2.1, hO.2.2.1, hO.2.2.2.1, hS, hP, hO.2.2.2.2.2.2⟩
theorem OKs_if {b : Prop} [Decidable b] (hO : OKs tp ap lim lm S P im) (hS : b → SgP S') : OKs tp ap lim lm (if b then S' else S) (if b then paA P S else P) im := by
  by_cases c : b
  · rw [if_pos c, if_pos c]
    exact OKs_act hO (hS c) (paA_P hO.2.2.2.2.2.1 hO.2.2.2.2.1)
  · rw [if_neg c, if_neg c]
    exact hO
theorem pfo_P {pl : List Dd} : ∀ (j i : Nat) (S : Sg) (P : List Sg), SgP S → (∀ p, p ∈ P → SgP p) → SgP (pfo ap lim pl j i S P).2.1 ∧ ∀ p, p ∈ (pfo ap lim pl j i S P).2.2 → SgP p
  | 0, i, S, P, hS, hP => ⟨hS, hP⟩
  | j + 1, i, S, P, hS, hP => by
    cases c : mkA ap lim S (sf pl i) (pf pl i) (xf pl i) with
    | true =>
      rw [pfo_t c]
      exact pfo_P j (i + 1) _ _ (SgP_mk hS c) (paA_P hP hS)
    | false =>
      rw [pfo_f c]
      exact ⟨hS, hP⟩
theorem OKs_perf {k : Int32} (hO : OKs tp ap lim lm S P im) : OKs tp ap lim lm (perfA ap lim S P PL k).2.1 (perfA ap lim S P PL k).2.2 im := by
  unfold perfA
  split
  · have := pfo_P (ap := ap) (lim := lim) (pl := PL.getD k.toNatClampNeg []) (PL.getD k.toNatClampNeg []).length 0 S P hO.2.2.2.2.1 hO.2.2.2.2.2.1
    exact OKs_act hO this.1 this.2
  · exact hO
theorem hap_P {x : Int64} (hS : SgP S) : SgP (hap lim hv S x).1 := by
  unfold hap
  split
  · unfold tbS
    split
    · exact hS
    · rename_i z
      have hlt := fnt_ok (x := drX x) z
      exact ⟨WF_erase hS.1 hlt, T3_erase hlt hS.2⟩
  · unfold dbS
    simp only
    split
    · rename_i c
      rw [Bool.and_eq_true] at c
      exact ⟨(WF_add hS.1 c.2).1, T3_add hS.2 c.2⟩
    · exact hS
theorem yr_P {x : Int64} (hS : SgP S) (hP : ∀ p, p ∈ P → SgP p) : ∀ k, SgP (yrF lim hv S P x k).1 ∧ ∀ p, p ∈ (yrF lim hv S P x k).2.1 → SgP p
  | 0 => ⟨hS, hP⟩
  | k + 1 => by
    obtain ⟨h1, h2⟩ := yr_P (x := x) hS hP k
    exact ⟨hap_P (S := tS (yrF lim hv S P x k).1) h1, paA_P h2 h1⟩
theorem OKs_years {n : Int32} {sd : Int64} (hO : OKs tp ap lim lm S P im) : OKs tp ap lim lm (yearsA ap lim hv S P n sd).2.1 (yearsA ap lim hv S P n sd).2.2 im := by
  unfold yearsA
  split
  · have := yr_P (lim := lim) (hv := hv) (x := sd) hO.2.2.2.2.1 hO.2.2.2.2.2.1 n.toNatClampNeg
    exact OKs_act hO this.1 this.2
  · exact hO
theorem OKs_undo (hO : OKs tp ap lim lm S P im) : OKs tp ap lim lm (P.getLastD S) P.dropLast im := by
  refine OKs_act hO ?_ (fun p hp => hO.2.2.2.2.2.1 p (List.dropLast_subset P hp))
  cases P with
  | nil => exact hO.2.2.2.2.1
  | cons a l => exact hO.2.2.2.2.2.1 _ (by rw [List.getLastD_cons]; exact List.getLastD_mem_cons ..)
end
