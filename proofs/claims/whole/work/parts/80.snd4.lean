section AMS4
variable {call : am_C} {g : am_g} {l : Launch} {y : am_Y} {R : Room} {Z : List Frame → Array Value → State → State → Prop} {n0 n c w pc len d : Nat} {Q : am_Q} {ls : List (Option Value)} {st : List Value} {M : am_M}
theorem am_Wsz {p : Program} {e : Env} {s : State} {m : MethodId} {args : Array Value} {below : List Frame} {meth : Method} {c0 : Code} {H : Heap} {locs : List Loc} {cells slots : Nat} {Qs : State → Prop} {f : JFrame} (k : H.size ≤ s.heap.size + cells → W p l e R s m args below meth c0 H locs cells slots Qs f) : W p l e R s m args below meth c0 H locs cells slots Qs f := fun T hT X => k (by rw [← hT]; exact X.heapSize) T hT X
theorem am_Wd_len : (am_Wd g n M).length = n := by simp [am_Wd]
theorem am_newq {q : Nat} {E : va_E} {H1 : Heap} (hD : va_D (g_F g) (am_Wd g n M ++ [(q, E)])) (hP : va_P (g_D g) vwCl (am_Wd g n M ++ [(q, E)]) H1) (hsz : H1.size ≤ g_b g + n + 1) : q = g_b g + n := by
  have hat : (am_Wd g n M ++ [(q, E)])[n]? = some (q, E) := by
    rw [List.getElem?_append_right (by rw [am_Wd_len]; omega), am_Wd_len, Nat.sub_self]; rfl
  have h1 : g_b g ≤ q := hD.2 n _ hat
  have h2 : q < H1.size := (hP n _ hat).lt
  by_cases h3 : q < g_b g + n
  · have hk : q - g_b g < n := by omega
    have hat2 : (am_Wd g n M ++ [(q, E)])[q - g_b g]? = some (g_b g + (q - g_b g), am_E g M (q - g_b g)) := by
      rw [List.getElem?_append_left (by rw [am_Wd_len]; exact hk)]; exact am_Wd_at hk
    have := hD.1 _ _ _ _ hat2 hat (by show g_b g + (q - g_b g) = q; omega)
    omega
  · omega
def am_NLOK : Prop := ∀ (k i : Nat) (q : Nat × Nat × Nat × Nat × Nat), am_nl k i = some q → ∃ r : vw_C, vwCl[q.1]? = some r ∧ r.2.2 = q.2.1 ∧ Cond.classLink (am_cls k) i r.1 ∈ am_tb ∧ Cond.instantiable r.1 r.2.2 ∈ am_tb ∧ Cond.initialized r.1 ∈ am_tb
def am_AROK : Prop := (Cond.arrayClass .int ∈ am_tb ∧ Cond.arrayClass .byte ∈ am_tb ∧ Cond.arrayClass .boolean ∈ am_tb ∧ Cond.arrayClass .long ∈ am_tb)
theorem am_R_new {H H1 : Heap} {q : Nat} {E : va_E} (hR : am_R g n M H) (hn : n < am_NN) (hq : q = g_b g + n) (hE : am_E g M n = E) (hP : va_P (g_D g) vwCl (am_Wd g n M ++ [(q, E)]) H1) : am_R g (n + 1) M H1 := by
  obtain ⟨h1, h2, h3, h4, h5⟩ := hR
  refine ⟨hn, ?_, fun k j hk hs => h3 k j (by omega) hs, h4, h5⟩
  rw [am_Wd_succ, hE, ← hq]
  exact hP
theorem am_Sz_new {s : State} (hz : am_Sz g s n c) (hn : n < am_NN) : am_Sz g s (n + 1) (c + 1) := fun _ => by have := hz hn; omega
theorem am_top {s : State} {H1 : Heap} (hz : am_Sz g s n c) (hn : n < am_NN) (hsz : H1.size ≤ s.heap.size + (c + 1)) : H1.size ≤ g_b g + n + 1 := by have := hz hn; omega
theorem am_stkn {q : Nat} {r : List Value} (hn : n < am_NN) (hq : q = g_b g + n) : (Value.ref n :: r).map (am_v g) = .ref q :: r.map (am_v g) := by
  rw [am_stk (Nat.lt_succ_self n) hn, hq]
theorem sw_new (hCL : am_CLOK) (hNL : am_NLOK) (hRk : am_Rok d R y) {k : Nat} (hd : decode (am_bc y) pc = .ok (.new k, len)) (hl : am_il (.new k) len = true) (h : am_wpi call y n0 Q (am_Wp g l y R Z) (.new k) len n c w pc ls st M) : am_Wp g l y R Z n c w pc ls st M := by
  have hl : (len == 3) = true := hl
  have el : len = 3 := eq_of_beq hl
  subst el
  obtain ⟨q, hq, ⟨hn, hT, hc, hw⟩, h⟩ := am_opt_inv h
  obtain ⟨r, h1, h2, h3, h4, h5⟩ := hNL _ _ _ hq
  obtain ⟨g1, g2, g3, g4, ty0, g5, g6⟩ := hCL _ _ h1
  intro p e s m args below meth c0 H locs mls X hR hS hz hL hcw
  have hU := X.2.2.2.2.2.2.2.2.1
  have hts := X.2.2.2.2.2.1
  have hA : ∀ a : Nat, s.heap.size ≤ a → g_F g a := fun a ha => Nat.le_trans X.2.2.2.2.2.2.2.2.2 ha
  refine va_new (ci := q.1) (fs := am_fs g M n q.1) (C := r.1) (T := r.2.1) (N := r.2.2) X.1 X.2.1 hts g1 ty0 g5 X.2.2.2.2.1 (hts _ h3) (hts _ h4) (hts _ h5) hU.1 hR.2.1 am_Wd_D hS hA h1 ?_ (Nat.le_trans hc hRk.2.2.1) (by rw [h2]; exact Nat.le_trans hw hRk.2.2.2) hd ?_
  · intro j hj
    have hj2 : j < (am_fk.getD q.1 []).length := by rw [g4]; exact hj
    have hk := g6 j hj
    obtain ⟨z1, z2, z3⟩ := hR.2.2.1 n j (Nat.le_refl n) (by unfold am_S0; unfold am_NN at hn; omega)
    unfold vp_V
    rw [List.getD_eq_getElem?_getD, am_fs_at hj2]
    show _ = am_v g (am_fv _ M n j)
    revert hk
    generalize (am_fk.getD q.1 []).getD j 0 = kd
    generalize ty0 j = ty
    intro hk
    unfold am_kty at hk
    split at hk <;> first
      | (cases hk; done)
      | (simp only [am_fv, z1, z2, z3]; rfl)
  · intro a H1 hP hD hS1
    refine am_Wsz (fun hsz => ?_)
    have hq0 := am_newq hD hP (am_top hz hn hsz)
    rw [h2]
    rw [← am_stkn (r := st) hn hq0]
    exact h p e s m args below meth c0 H1 locs mls X (am_R_new hR hn hq0 (am_E_ob hT) hP) hS1 (am_Sz_new hz hn) hL ⟨Nat.le_trans hc hRk.2.2.1, Nat.le_trans hw hRk.2.2.2⟩
theorem am_cAeq {s : State} {cA cB : ClassId} {ty : FieldType} {i j : Nat} {tys tys' : List (ClassId × FieldType)} (h1 : va_K (g_D g) vwCl tys s) (h2 : va_K (g_D g) vwCl tys' s) (e1 : tys[i]? = some (cA, ty)) (e2 : tys'[j]? = some (cB, ty)) : cA = cB := by
  have a1 := (h1.2 i _ e1).2
  have a2 := (h2.2 j _ e2).2
  cases ty with
  | object C =>
    obtain ⟨_, _, -, -, -, b1⟩ := a1
    obtain ⟨_, _, -, -, -, b2⟩ := a2
    exact Option.some.inj (b1.symm.trans b2)
  | _ => exact Option.some.inj (Eq.trans (Eq.symm a1) a2)
theorem sw_newarray (hAR : am_AROK) (hRk : am_Rok d R y) {t : ArrayType} (hd : decode (am_bc y) pc = .ok (.newarray t, len)) (hl : am_il (.newarray t) len = true) (h : am_wpi call y n0 Q (am_Wp g l y R Z) (.newarray t) len n c w pc ls st M) : am_Wp g l y R Z n c w pc ls st M := by
  have hl : (len == 2) = true := hl
  have el : len = 2 := eq_of_beq hl
  subst el
  obtain ⟨x, r, rfl, ⟨hn, hT, hx, hN, hc, hw⟩, h9⟩ := am_i1_inv h
  intro p e s m args below meth c0 H locs mls X hR hS hz hL hcw
  have hU := X.2.2.2.2.2.2.2.2.1
  have hts := X.2.2.2.2.2.1
  have hA : ∀ a : Nat, s.heap.size ≤ a → g_F g a := fun a ha => Nat.le_trans X.2.2.2.2.2.2.2.2.2 ha
  have hzr : ∀ j, gI M n j = 0 ∧ gL M n j = 0 ∧ gR M n j = none := fun j => hR.2.2.1 n j (Nat.le_refl n) (by unfold am_S0; unfold am_NN at hn; omega)
  have eI : gI M n = fun _ => 0 := funext fun j => (hzr j).1
  have eL : gL M n = fun _ => 0 := funext fun j => (hzr j).2.1
  have h1 := Nat.le_trans hc hRk.2.2.1
  have h2 := Nat.le_trans hw hRk.2.2.2
  have hT2 : (am_T n).2 = x.toNatClampNeg := by rw [hT]
  have hT1 : (am_T n).1 = am_atk t := by rw [hT]
  show W p l e R s m args below meth c0 H locs c w (Z below args s) (F0 m pc mls (.int x :: r.map (am_v g)))
  cases t with
  | int =>
    refine va_newa (atype := .int) (a0 := (x.toNatClampNeg, .inl (fun _ => 0))) X.1 X.2.1 (hts _ hAR.1) rfl hU.1 hR.2.1 am_Wd_D hS hA (fun cA => rfl) hx rfl (by show _ * 4 ≤ _; omega) h1 h2 hd (fun q cA H1 hK hP hD hS1 => am_Wsz (fun hsz => ?_))
    have ec : cA = g_A g 1 := am_cAeq (i := 7) (j := 0) hK hU.1 rfl rfl
    subst ec
    have hq0 := am_newq hD hP (am_top hz hn hsz)
    rw [← am_stkn (r := r) hn hq0]
    exact h9 p e s m args below meth c0 H1 locs mls X (am_R_new hR hn hq0 (by rw [am_E_1 hT1, hT2, eI]) hP) hS1 (am_Sz_new hz hn) hL ⟨Nat.le_trans hc hRk.2.2.1, Nat.le_trans hw hRk.2.2.2⟩
  | byte =>
    refine va_newa (atype := .byte) (a0 := (x.toNatClampNeg, .inl (fun _ => 0))) X.1 X.2.1 (hts _ hAR.2.1) rfl hU.1 hR.2.1 am_Wd_D hS hA (fun cA => rfl) hx rfl (by show _ * 1 ≤ _; omega) h1 h2 hd (fun q cA H1 hK hP hD hS1 => am_Wsz (fun hsz => ?_))
    have ec : cA = g_A g 2 := am_cAeq (i := 7) (j := 1) hK hU.1 rfl rfl
    subst ec
    have hq0 := am_newq hD hP (am_top hz hn hsz)
    rw [← am_stkn (r := r) hn hq0]
    exact h9 p e s m args below meth c0 H1 locs mls X (am_R_new hR hn hq0 (by rw [am_E_2 hT1, hT2, eI]) hP) hS1 (am_Sz_new hz hn) hL ⟨Nat.le_trans hc hRk.2.2.1, Nat.le_trans hw hRk.2.2.2⟩
  | boolean =>
    refine va_newa (atype := .boolean) (a0 := (x.toNatClampNeg, .inl (fun _ => 0))) X.1 X.2.1 (hts _ hAR.2.2.1) rfl hU.1 hR.2.1 am_Wd_D hS hA (fun cA => rfl) hx rfl (by show _ * 1 ≤ _; omega) h1 h2 hd (fun q cA H1 hK hP hD hS1 => am_Wsz (fun hsz => ?_))
    have ec : cA = g_A g 3 := am_cAeq (i := 7) (j := 2) hK hU.1 rfl rfl
    subst ec
    have hq0 := am_newq hD hP (am_top hz hn hsz)
    rw [← am_stkn (r := r) hn hq0]
    exact h9 p e s m args below meth c0 H1 locs mls X (am_R_new hR hn hq0 (by rw [am_E_3 hT1, hT2, eI]) hP) hS1 (am_Sz_new hz hn) hL ⟨Nat.le_trans hc hRk.2.2.1, Nat.le_trans hw hRk.2.2.2⟩
  | long =>
    refine va_newa (atype := .long) (a0 := (x.toNatClampNeg, .inr (.inl (fun _ => 0)))) X.1 X.2.1 (hts _ hAR.2.2.2) rfl hU.1 hR.2.1 am_Wd_D hS hA (fun cA => rfl) hx rfl (by show _ * 8 ≤ _; omega) h1 h2 hd (fun q cA H1 hK hP hD hS1 => am_Wsz (fun hsz => ?_))
    have ec : cA = g_A g 4 := am_cAeq (i := 7) (j := 3) hK hU.1 rfl rfl
    subst ec
    have hq0 := am_newq hD hP (am_top hz hn hsz)
    rw [← am_stkn (r := r) hn hq0]
    exact h9 p e s m args below meth c0 H1 locs mls X (am_R_new hR hn hq0 (by rw [am_E_4 hT1, hT2, eL]) hP) hS1 (am_Sz_new hz hn) hL ⟨Nat.le_trans hc hRk.2.2.1, Nat.le_trans hw hRk.2.2.2⟩
  | _ =>
    have : ∀ k, k < am_NN → (am_T k).1 ≠ 10 := by decide +kernel
    exact absurd hT1 (this n hn)
theorem sw_anewarray (hAR : am_AROK) (hNL : am_NLOK) (hRk : am_Rok d R y) {k : Nat} (hd : decode (am_bc y) pc = .ok (.anewarray k, len)) (hl : am_il (.anewarray k) len = true) (h : am_wpi call y n0 Q (am_Wp g l y R Z) (.anewarray k) len n c w pc ls st M) : am_Wp g l y R Z n c w pc ls st M := by
  have hl : (len == 3) = true := hl
  have el : len = 3 := eq_of_beq hl
  subst el
  obtain ⟨q, hq, h⟩ := am_opt_inv h
  obtain ⟨x, r, rfl, ⟨hn, hT, hx, hN, hc, hw⟩, h⟩ := am_i1_inv h
  obtain ⟨rc, k1, k2, k3, k4, k5⟩ := hNL _ _ _ hq
  intro p e s m args below meth c0 H locs mls X hR hS hz hL hcw
  have hU := X.2.2.2.2.2.2.2.2.1
  have hts := X.2.2.2.2.2.1
  have hA : ∀ a : Nat, s.heap.size ≤ a → g_F g a := fun a ha => Nat.le_trans X.2.2.2.2.2.2.2.2.2 ha
  have hzr : ∀ j, gI M n j = 0 ∧ gL M n j = 0 ∧ gR M n j = none := fun j => hR.2.2.1 n j (Nat.le_refl n) (by unfold am_S0; unfold am_NN at hn; omega)
  have eR : (fun j => (gR M n j).map (am_ad g)) = fun _ => none := funext fun j => by rw [(hzr j).2.2]; rfl
  have h1 := Nat.le_trans hc hRk.2.2.1
  have h2 := Nat.le_trans hw hRk.2.2.2
  have hT2 : (am_T n).2 = x.toNatClampNeg := by rw [hT]
  have hT1 : (am_T n).1 = am_anw q.1 := by rw [hT]
  show W p l e R s m args below meth c0 H locs c w (Z below args s) (F0 m pc mls (.int x :: r.map (am_v g)))
  generalize q.1 = ci at k1 hT1
  unfold am_anw at hT1
  split at hT1
  · cases k1
    refine va_newq (C := RX0) X.1 X.2.1 X.2.2.2.2.1 (hts _ k3) hU.2.2.2.1.2.2.1 hU.1 hR.2.1 am_Wd_D hS hA hx rfl (by omega) h1 h2 hd (fun q cA H1 hK hP hD hS1 => am_Wsz (fun hsz => ?_))
    have ec : cA = g_A g 5 := am_cAeq (i := 7) (j := 4) hK hU.1 rfl rfl
    subst ec
    have hq0 := am_newq hD hP (am_top hz hn hsz)
    rw [← am_stkn (r := r) hn hq0]
    exact h p e s m args below meth c0 H1 locs mls X (am_R_new hR hn hq0 (by rw [am_E_5 hT1, hT2, eR]) hP) hS1 (am_Sz_new hz hn) hL ⟨Nat.le_trans hc hRk.2.2.1, Nat.le_trans hw hRk.2.2.2⟩
  · cases k1
    refine va_newq (C := RX8) X.1 X.2.1 X.2.2.2.2.1 (hts _ k3) hU.2.2.2.1.2.2.2.1 hU.1 hR.2.1 am_Wd_D hS hA hx rfl (by omega) h1 h2 hd (fun q cA H1 hK hP hD hS1 => am_Wsz (fun hsz => ?_))
    have ec : cA = g_A g 6 := am_cAeq (i := 7) (j := 5) hK hU.1 rfl rfl
    subst ec
    have hq0 := am_newq hD hP (am_top hz hn hsz)
    rw [← am_stkn (r := r) hn hq0]
    exact h p e s m args below meth c0 H1 locs mls X (am_R_new hR hn hq0 (by rw [am_E_6 hT1, hT2, eR]) hP) hS1 (am_Sz_new hz hn) hL ⟨Nat.le_trans hc hRk.2.2.1, Nat.le_trans hw hRk.2.2.2⟩
  · cases k1
    refine va_newq (C := RX2) X.1 X.2.1 X.2.2.2.2.1 (hts _ k3) hU.2.2.2.1.2.2.2.2 hU.1 hR.2.1 am_Wd_D hS hA hx rfl (by omega) h1 h2 hd (fun q cA H1 hK hP hD hS1 => am_Wsz (fun hsz => ?_))
    have ec : cA = g_A g 7 := am_cAeq (i := 7) (j := 6) hK hU.1 rfl rfl
    subst ec
    have hq0 := am_newq hD hP (am_top hz hn hsz)
    rw [← am_stkn (r := r) hn hq0]
    exact h p e s m args below meth c0 H1 locs mls X (am_R_new hR hn hq0 (by rw [am_E_7 hT1, hT2, eR]) hP) hS1 (am_Sz_new hz hn) hL ⟨Nat.le_trans hc hRk.2.2.1, Nat.le_trans hw hRk.2.2.2⟩
  · have : ∀ k, k < am_NN → (am_T k).1 ≠ 10 := by decide +kernel
    exact absurd hT1 (this n hn)
end AMS4
