section AMS3
variable {call : am_C} {g : am_g} {l : Launch} {y : am_Y} {R : Room} {Z : List Frame → Array Value → State → State → Prop} {n0 n c w pc len : Nat} {Q : am_Q} {ls : List (Option Value)} {st : List Value} {M : am_M}
theorem am_stk2 {a : Nat} {v : Value} {r : List Value} (ha : a < n) (hn : n ≤ am_NN) : (v :: Value.ref a :: r).map (am_v g) = am_v g v :: .ref (g_b g + a) :: r.map (am_v g) := by
  show am_v g v :: Value.ref (am_ad g a) :: r.map (am_v g) = _
  rw [am_ad_own ha hn]
theorem am_stk3 {a : Nat} {u v : Value} {r : List Value} (ha : a < n) (hn : n ≤ am_NN) : (u :: v :: Value.ref a :: r).map (am_v g) = am_v g u :: am_v g v :: .ref (g_b g + a) :: r.map (am_v g) := by
  show am_v g u :: am_v g v :: Value.ref (am_ad g a) :: r.map (am_v g) = _
  rw [am_ad_own ha hn]
theorem am_ad_SC : am_ad g am_SC = g_s g := by
  unfold am_ad am_SC am_S0
  rw [if_neg (by decide), if_neg (by decide)]
theorem am_arat {a kd : Nat} (ha : a < n) {E : va_E} (hE : am_E g M a = E) : (am_Wd g n M)[a]? = some (g_b g + a, E) := by
  rw [am_Wd_at ha, hE]
theorem sw_iaload (hd : decode (am_bc y) pc = .ok (.iaload, len)) (hl : am_il .iaload len = true) (h : am_wpi call y n0 Q (am_Wp g l y R Z) .iaload len n c w pc ls st M) : am_Wp g l y R Z n c w pc ls st M := by
  have hl : (len == 1) = true := hl
  have el : len = 1 := eq_of_beq hl
  subst el
  obtain ⟨a, i, r, rfl, hin, h⟩ := am_ri_inv h
  intro p e s m args below meth c0 H locs mls X hR hS hz hL hcw
  have hU := X.2.2.2.2.2.2.2.2.1
  rcases hin with ⟨ha, hk, hv⟩ | ⟨rfl, -, hv⟩
  · rw [am_stk2 ha hR.1]
    exact va_iald X.1 X.2.1 hU.1 hR.2.1 a 0 (am_arat (kd := 1) ha (am_E_1 hk)) rfl hv hd (h p e s m args below meth c0 H locs mls X hR hS hz hL hcw)
  · show W p l e R s m args below meth c0 H locs c w (Z below args s) (F0 m pc mls (.int i :: .ref (am_ad g am_SC) :: r.map (am_v g)))
    rw [am_ad_SC]
    have hL3 : g_L g ≤ 384 := hU.2.2.2.1.1
    have hv : vp_in i (g_L g) := by rw [hR.2.2.2.1, nI_clamp (by omega)] at hv; exact hv
    have hlt : i.toNatClampNeg < g_L g := Nat.not_le.mp fun q => hv (Or.inr q)
    have hk := h p e s m args below meth c0 H locs mls X hR hS hz hL hcw
    have hbl : g_s g < s.heap.size := Nat.lt_of_lt_of_le hU.2.2.1 X.2.2.2.2.2.2.2.2.2
    refine va_sld X.1 X.2.1 hU.2.1 hbl (Nat.not_le.mpr hU.2.2.1) hS hv hd ?_
    rw [← hR.2.2.2.2 _ hlt]
    exact hk
theorem sw_arraylength (hd : decode (am_bc y) pc = .ok (.arraylength, len)) (hl : am_il .arraylength len = true) (h : am_wpi call y n0 Q (am_Wp g l y R Z) .arraylength len n c w pc ls st M) : am_Wp g l y R Z n c w pc ls st M := by
  have hl : (len == 1) = true := hl
  have el : len = 1 := eq_of_beq hl
  subst el
  obtain ⟨a, r, rfl, hin, h⟩ := am_r1_inv h
  intro p e s m args below meth c0 H locs mls X hR hS hz hL hcw
  have hU := X.2.2.2.2.2.2.2.2.1
  have hk := h p e s m args below meth c0 H locs mls X hR hS hz hL hcw
  by_cases hsc : a = am_SC
  · subst hsc
    show W p l e R s m args below meth c0 H locs c w (Z below args s) (F0 m pc mls (.ref (am_ad g am_SC) :: r.map (am_v g)))
    rw [am_ad_SC]
    have hbl : g_s g < s.heap.size := Nat.lt_of_lt_of_le hU.2.2.1 X.2.2.2.2.2.2.2.2.2
    refine va_slen X.1 X.2.1 hU.2.1 hbl (Nat.not_le.mpr hU.2.2.1) hS hd ?_
    have e : am_len M am_SC = Int32.ofNat (g_L g) := by unfold am_len; rw [if_pos rfl, hR.2.2.2.1]; rfl
    rw [← e]
    exact hk
  · rcases hin with e | ⟨ha, h1, h7⟩
    · exact absurd e hsc
    have e : am_len M a = Int32.ofNat (am_T a).2 := by unfold am_len; rw [if_neg hsc]; rfl
    rw [am_stk ha hR.1]
    have hc : (am_T a).1 = 1 ∨ (am_T a).1 = 2 ∨ (am_T a).1 = 3 ∨ (am_T a).1 = 4 ∨ (am_T a).1 = 5 ∨ (am_T a).1 = 6 ∨ (am_T a).1 = 7 := by omega
    rcases hc with q | q | q | q | q | q | q
    · exact va_alen X.1 X.2.1 hU.1 hR.2.1 a 0 (am_arat (kd := 1) ha (am_E_1 q)) rfl e.symm hd hk
    · exact va_alen X.1 X.2.1 hU.1 hR.2.1 a 1 (am_arat (kd := 1) ha (am_E_2 q)) rfl e.symm hd hk
    · exact va_alen X.1 X.2.1 hU.1 hR.2.1 a 2 (am_arat (kd := 1) ha (am_E_3 q)) rfl e.symm hd hk
    · exact va_alen X.1 X.2.1 hU.1 hR.2.1 a 3 (am_arat (kd := 1) ha (am_E_4 q)) rfl e.symm hd hk
    · exact va_alen X.1 X.2.1 hU.1 hR.2.1 a 4 (am_arat (kd := 1) ha (am_E_5 q)) rfl e.symm hd hk
    · exact va_alen X.1 X.2.1 hU.1 hR.2.1 a 5 (am_arat (kd := 1) ha (am_E_6 q)) rfl e.symm hd hk
    · exact va_alen X.1 X.2.1 hU.1 hR.2.1 a 6 (am_arat (kd := 1) ha (am_E_7 q)) rfl e.symm hd hk
theorem sw_baload (hd : decode (am_bc y) pc = .ok (.baload, len)) (hl : am_il .baload len = true) (h : am_wpi call y n0 Q (am_Wp g l y R Z) .baload len n c w pc ls st M) : am_Wp g l y R Z n c w pc ls st M := by
  have hl : (len == 1) = true := hl
  have el : len = 1 := eq_of_beq hl
  subst el
  obtain ⟨a, i, r, rfl, hin, h⟩ := am_ri_inv h
  intro p e s m args below meth c0 H locs mls X hR hS hz hL hcw
  have hU := X.2.2.2.2.2.2.2.2.1
  rcases hin with ⟨ha, hk, hv⟩ | ⟨ha, hk, hv⟩
  · rw [am_stk2 ha hR.1]
    exact va_bald X.1 X.2.1 hU.1 hR.2.1 a 1 (am_arat (kd := 1) ha (am_E_2 hk)) rfl hv hd (h p e s m args below meth c0 H locs mls X hR hS hz hL hcw)
  · rw [am_stk2 ha hR.1]
    exact va_zald X.1 X.2.1 hU.1 hR.2.1 a 2 (am_arat (kd := 1) ha (am_E_3 hk)) rfl hv hd (h p e s m args below meth c0 H locs mls X hR hS hz hL hcw)
theorem sw_laload (hd : decode (am_bc y) pc = .ok (.laload, len)) (hl : am_il .laload len = true) (h : am_wpi call y n0 Q (am_Wp g l y R Z) .laload len n c w pc ls st M) : am_Wp g l y R Z n c w pc ls st M := by
  have hl : (len == 1) = true := hl
  have el : len = 1 := eq_of_beq hl
  subst el
  obtain ⟨a, i, r, rfl, ⟨ha, hk, hv⟩, h⟩ := am_ri_inv h
  intro p e s m args below meth c0 H locs mls X hR hS hz hL hcw
  have hU := X.2.2.2.2.2.2.2.2.1
  rw [am_stk2 ha hR.1]
  exact va_lald X.1 X.2.1 hU.1 hR.2.1 a 3 (am_arat (kd := 1) ha (am_E_4 hk)) rfl hv hd (h p e s m args below meth c0 H locs mls X hR hS hz hL hcw)
theorem sw_aaload (hd : decode (am_bc y) pc = .ok (.aaload, len)) (hl : am_il .aaload len = true) (h : am_wpi call y n0 Q (am_Wp g l y R Z) .aaload len n c w pc ls st M) : am_Wp g l y R Z n c w pc ls st M := by
  have hl : (len == 1) = true := hl
  have el : len = 1 := eq_of_beq hl
  subst el
  obtain ⟨a, i, r, rfl, hin, h⟩ := am_ri_inv h
  intro p e s m args below meth c0 H locs mls X hR hS hz hL hcw
  have hU := X.2.2.2.2.2.2.2.2.1
  have hk0 := h p e s m args below meth c0 H locs mls X hR hS hz hL hcw
  have e0 : (am_rv (gR M a i.toNatClampNeg) :: r).map (am_v g) = va_rf ((gR M a i.toNatClampNeg).map (am_ad g)) :: r.map (am_v g) := by rw [List.map_cons, am_v_rv]
  rw [e0] at hk0
  rcases hin with ⟨ha, hk, hv⟩ | ⟨ha, hk, hv⟩ | ⟨ha, hk, hv⟩
  · rw [am_stk2 ha hR.1]
    exact va_aldq X.1 X.2.1 hU.1 hR.2.1 a 4 (am_arat (kd := 1) ha (am_E_5 hk)) rfl hv hd hk0
  · rw [am_stk2 ha hR.1]
    exact va_aldq X.1 X.2.1 hU.1 hR.2.1 a 5 (am_arat (kd := 1) ha (am_E_6 hk)) rfl hv hd hk0
  · rw [am_stk2 ha hR.1]
    exact va_aldq X.1 X.2.1 hU.1 hR.2.1 a 6 (am_arat (kd := 1) ha (am_E_7 hk)) rfl hv hd hk0
theorem am_gI_upd {a k : Nat} {v : Int32} : gI (sI M a k v) a = upd (gI M a) k v := by
  funext j
  rw [gI_sI]
  unfold upd
  by_cases hj : j = k
  · rw [if_pos ⟨rfl, hj⟩, if_pos hj]
  · rw [if_neg (fun q => hj q.2), if_neg hj]
theorem am_sI_o {a k : Nat} {v : Int32} : ∀ b i, b ≠ a → gI (sI M a k v) b i = gI M b i := fun b i h => by rw [gI_sI, if_neg (fun q => h q.1)]
theorem sw_iastore (hd : decode (am_bc y) pc = .ok (.iastore, len)) (hl : am_il .iastore len = true) (h : am_wpi call y n0 Q (am_Wp g l y R Z) .iastore len n c w pc ls st M) : am_Wp g l y R Z n c w pc ls st M := by
  have hl : (len == 1) = true := hl
  have el : len = 1 := eq_of_beq hl
  subst el
  obtain ⟨a, i, x, r, rfl, ⟨ha, hk, hv⟩, h⟩ := am_rii_inv h
  intro p e s m args below meth c0 H locs mls X hR hS hz hL hcw
  have hU := X.2.2.2.2.2.2.2.2.1
  rw [am_stk3 ha hR.1]
  exact va_iast X.1 X.2.1 hU.1 hR.2.1 am_Wd_D hS a 0 (am_arat (kd := 1) ha (am_E_1 hk)) rfl hv hd (fun H1 locs1 hP _ hS1 => h p e s m args below meth c0 H1 locs1 mls X (am_R_st hR ha (by rw [am_E_1 hk, am_gI_upd]) hP am_sI_o (fun _ _ _ => rfl) (fun _ _ _ => rfl)) hS1 hz hL hcw)
theorem am_nar01 {x : Int32} (h : x = 0 ∨ x = 1) : vp_nar .boolean x = x := by
  rcases h with rfl | rfl <;> decide
theorem sw_bastore (hd : decode (am_bc y) pc = .ok (.bastore, len)) (hl : am_il .bastore len = true) (h : am_wpi call y n0 Q (am_Wp g l y R Z) .bastore len n c w pc ls st M) : am_Wp g l y R Z n c w pc ls st M := by
  have hl : (len == 1) = true := hl
  have el : len = 1 := eq_of_beq hl
  subst el
  obtain ⟨a, i, x, r, rfl, h⟩ := am_rii_inv h
  intro p e s m args below meth c0 H locs mls X hR hS hz hL hcw
  have hU := X.2.2.2.2.2.2.2.2.1
  rcases h with ⟨⟨ha, hk, hv⟩, h⟩ | ⟨⟨ha, hk, hv⟩, hx, h⟩
  · rw [am_stk3 ha hR.1]
    exact va_bast X.1 X.2.1 hU.1 hR.2.1 am_Wd_D hS a 1 (am_arat (kd := 1) ha (am_E_2 hk)) rfl hv hd (fun H1 locs1 hP _ hS1 => h p e s m args below meth c0 H1 locs1 mls X (am_R_st hR ha (by rw [am_E_2 hk, am_gI_upd, vp_nar_byte]) hP am_sI_o (fun _ _ _ => rfl) (fun _ _ _ => rfl)) hS1 hz hL hcw)
  · rw [am_stk3 ha hR.1]
    exact va_zast X.1 X.2.1 hU.1 hR.2.1 am_Wd_D hS a 2 (am_arat (kd := 1) ha (am_E_3 hk)) rfl hv hd (fun H1 locs1 hP _ hS1 => h p e s m args below meth c0 H1 locs1 mls X (am_R_st hR ha (by rw [am_E_3 hk, am_gI_upd, am_nar01 hx]) hP am_sI_o (fun _ _ _ => rfl) (fun _ _ _ => rfl)) hS1 hz hL hcw)
theorem am_gL_upd {a k : Nat} {v : Int64} : gL (sL M a k v) a = vp_updL (gL M a) k v := by
  funext j
  rw [gL_sL]
  unfold vp_updL
  by_cases hj : j = k
  · rw [if_pos ⟨rfl, hj⟩, if_pos hj]
  · rw [if_neg (fun q => hj q.2), if_neg hj]
theorem am_sL_o {a k : Nat} {v : Int64} : ∀ b i, b ≠ a → gL (sL M a k v) b i = gL M b i := fun b i h => by rw [gL_sL, if_neg (fun q => h q.1)]
theorem sw_lastore (hd : decode (am_bc y) pc = .ok (.lastore, len)) (hl : am_il .lastore len = true) (h : am_wpi call y n0 Q (am_Wp g l y R Z) .lastore len n c w pc ls st M) : am_Wp g l y R Z n c w pc ls st M := by
  have hl : (len == 1) = true := hl
  have el : len = 1 := eq_of_beq hl
  subst el
  obtain ⟨a, i, x, r, rfl, ⟨ha, hk, hv⟩, h⟩ := am_ril_inv h
  intro p e s m args below meth c0 H locs mls X hR hS hz hL hcw
  have hU := X.2.2.2.2.2.2.2.2.1
  rw [am_stk3 ha hR.1]
  exact va_last X.1 X.2.1 hU.1 hR.2.1 am_Wd_D hS a 3 (am_arat (kd := 1) ha (am_E_4 hk)) rfl hv hd (fun H1 locs1 hP _ hS1 => h p e s m args below meth c0 H1 locs1 mls X (am_R_st hR ha (by rw [am_E_4 hk, am_gL_upd]) hP (fun _ _ _ => rfl) am_sL_o (fun _ _ _ => rfl)) hS1 hz hL hcw)
theorem am_gR_upd {a k b : Nat} (hb : am_ad g b = g_b g + b) : (fun j => (gR (sR M a k (some b)) a j).map (am_ad g)) = va_up (fun j => (gR M a j).map (am_ad g)) k (some (g_b g + b)) := by
  funext j
  rw [gR_sR]
  unfold va_up
  by_cases hj : j = k
  · rw [if_pos ⟨rfl, hj⟩, if_pos hj, ← hb]; rfl
  · rw [if_neg (fun q => hj q.2), if_neg hj]
theorem am_sR_o {a k : Nat} {v : Option Nat} : ∀ b i, b ≠ a → gR (sR M a k v) b i = gR M b i := fun b i h => by rw [gR_sR, if_neg (fun q => h q.1)]
theorem sw_aastore (hd : decode (am_bc y) pc = .ok (.aastore, len)) (hl : am_il .aastore len = true) (h : am_wpi call y n0 Q (am_Wp g l y R Z) .aastore len n c w pc ls st M) : am_Wp g l y R Z n c w pc ls st M := by
  have hl : (len == 1) = true := hl
  have el : len = 1 := eq_of_beq hl
  subst el
  obtain ⟨a, i, b, r, rfl, hin, h⟩ := am_rir_inv h
  intro p e s m args below meth c0 H locs mls X hR hS hz hL hcw
  have hU := X.2.2.2.2.2.2.2.2.1
  have hst : ∀ (ha : a < n) (hb : b < n), (Value.ref b :: .int i :: .ref a :: r).map (am_v g) = .ref (g_b g + b) :: .int i :: .ref (g_b g + a) :: r.map (am_v g) := fun ha hb => by
    show Value.ref (am_ad g b) :: .int i :: .ref (am_ad g a) :: r.map (am_v g) = _
    rw [am_ad_own ha hR.1, am_ad_own hb hR.1]
  rcases hin with ⟨⟨ha, hk, hv⟩, hb⟩ | ⟨⟨ha, hk, hv⟩, hb⟩ | ⟨⟨ha, hk, hv⟩, hb⟩
  · rw [hst ha hb.1]
    exact va_astq X.1 X.2.1 hU.1 hR.2.1 am_Wd_D hS a 4 b 0 (am_arat (kd := 1) ha (am_E_5 hk)) rfl (am_obat hb) rfl hv hd (fun H1 locs1 hP _ hS1 => h p e s m args below meth c0 H1 locs1 mls X (am_R_st hR ha (by rw [am_E_5 hk, am_gR_upd (am_ad_own hb.1 hR.1)]) hP (fun _ _ _ => rfl) (fun _ _ _ => rfl) am_sR_o) hS1 hz hL hcw)
  · rw [hst ha hb.1]
    exact va_astq X.1 X.2.1 hU.1 hR.2.1 am_Wd_D hS a 5 b 8 (am_arat (kd := 1) ha (am_E_6 hk)) rfl (am_obat hb) rfl hv hd (fun H1 locs1 hP _ hS1 => h p e s m args below meth c0 H1 locs1 mls X (am_R_st hR ha (by rw [am_E_6 hk, am_gR_upd (am_ad_own hb.1 hR.1)]) hP (fun _ _ _ => rfl) (fun _ _ _ => rfl) am_sR_o) hS1 hz hL hcw)
  · rw [hst ha hb.1]
    exact va_astq X.1 X.2.1 hU.1 hR.2.1 am_Wd_D hS a 6 b 2 (am_arat (kd := 1) ha (am_E_7 hk)) rfl (am_obat hb) rfl hv hd (fun H1 locs1 hP _ hS1 => h p e s m args below meth c0 H1 locs1 mls X (am_R_st hR ha (by rw [am_E_7 hk, am_gR_upd (am_ad_own hb.1 hR.1)]) hP (fun _ _ _ => rfl) (fun _ _ _ => rfl) am_sR_o) hS1 hz hL hcw)
theorem am_ldc_inv {k q : Nat} {f : Value → Prop} (h : am_ldc k q f) : (∃ v, am_ck k q = some v ∧ f (.int v.1)) ∨ ∃ j, am_cs k q = some j ∧ f (.ref (am_S0 + j)) := by
  unfold am_ldc at h
  split at h
  · exact Or.inl ⟨_, by assumption, h⟩
  · exact Or.inr ⟨_, by assumption, h⟩
  · exact h.elim
theorem am_ad_S0 {j : Nat} (h : j < 4) : am_ad g (am_S0 + j) = g_K g j := by
  unfold am_ad
  rw [if_neg (by omega), if_pos (by unfold am_S0 am_SC; omega), Nat.add_sub_cancel_left]
theorem sw_ldc (hCK : am_CKOK) {k : Nat} (hd : decode (am_bc y) pc = .ok (.ldc k, len)) (hl : am_il (.ldc k) len = true) (h : am_wpi call y n0 Q (am_Wp g l y R Z) (.ldc k) len n c w pc ls st M) : am_Wp g l y R Z n c w pc ls st M := by
  have hl : (len == 2) = true := hl
  have el : len = 2 := eq_of_beq hl
  subst el
  intro p e s m args below meth c0 H locs mls X hR hS hz hL hcw
  have hU := X.2.2.2.2.2.2.2.2.1
  rcases am_ldc_inv (f := fun v => am_Wp g l y R Z n c w (pc + 2) ls (v :: st) M) h with ⟨v, hv, h⟩ | ⟨j, hj, h⟩
  · exact lv_ldc X.1 X.2.1 X.2.2.2.2.1 (X.2.2.2.2.2.1 _ (hCK.1 _ _ _ hv)) hd (h p e s m args below meth c0 H locs mls X hR hS hz hL hcw)
  · obtain ⟨e1, e2, e3⟩ := hCK.2.2 _ _ _ hj
    have hk := h p e s m args below meth c0 H locs mls X hR hS hz hL hcw
    have e0 : (Value.ref (am_S0 + j) :: st).map (am_v g) = .ref (g_K g j) :: st.map (am_v g) := by
      show Value.ref (am_ad g (am_S0 + j)) :: st.map (am_v g) = _
      rw [am_ad_S0 e2]
    rw [e0] at hk
    have hZ := hU.2.2.2.2.2.2.2 j e2
    rw [e3] at hZ
    have hown : s.vm.findClass RX11 = some m.cls := by have := X.2.2.2.2.1; rw [e1] at this; exact this
    exact va_ldcS X.1 X.2.1 hown hZ hd hk
theorem am_ldcSW {p : Program} {e : Env} {s : State} {m : MethodId} {args : Array Value} {below : List Frame} {meth : Method} {c0 : Code} {H : Heap} {locs : List Loc} {cells slots : Nat} {Qs : State → Prop} {cc : ByteArray} {mls : Array Slot} {rest : List Value} (hexec : p.tables.exec = Jvm.exec) (hb : c0.code = cc) {own tx : String} {index q : Nat} (hown : s.vm.findClass own = some m.cls) (hZ : vk_R own index tx q s) (hdg : decode cc pc = .ok (.ldc_w index, 3))
    (k : W p l e R s m args below meth c0 H locs cells slots Qs (F0 m (pc + 3) mls (.ref q :: rest))) : W p l e R s m args below meth c0 H locs cells slots Qs (F0 m pc mls rest) := by
  intro T hT X
  obtain ⟨t, a1, b1⟩ := k T hT X
  exact ⟨t, X.ldcStringW hexec hown (text := tx) (a := q) hZ.1 hZ.2 (g := F0 m pc mls rest) rfl (by rw [hb]; exact hdg) t a1, b1⟩
theorem sw_ldc_w (hCK : am_CKOK) {k : Nat} (hd : decode (am_bc y) pc = .ok (.ldc_w k, len)) (hl : am_il (.ldc_w k) len = true) (h : am_wpi call y n0 Q (am_Wp g l y R Z) (.ldc_w k) len n c w pc ls st M) : am_Wp g l y R Z n c w pc ls st M := by
  have hl : (len == 3) = true := hl
  have el : len = 3 := eq_of_beq hl
  subst el
  intro p e s m args below meth c0 H locs mls X hR hS hz hL hcw
  have hU := X.2.2.2.2.2.2.2.2.1
  rcases am_ldc_inv (f := fun v => am_Wp g l y R Z n c w (pc + 3) ls (v :: st) M) h with ⟨v, hv, h⟩ | ⟨j, hj, h⟩
  · exact lv_ldcw X.1 X.2.1 X.2.2.2.2.1 (X.2.2.2.2.2.1 _ (hCK.1 _ _ _ hv)) hd (h p e s m args below meth c0 H locs mls X hR hS hz hL hcw)
  · obtain ⟨e1, e2, e3⟩ := hCK.2.2 _ _ _ hj
    have hk := h p e s m args below meth c0 H locs mls X hR hS hz hL hcw
    have e0 : (Value.ref (am_S0 + j) :: st).map (am_v g) = .ref (g_K g j) :: st.map (am_v g) := by
      show Value.ref (am_ad g (am_S0 + j)) :: st.map (am_v g) = _
      rw [am_ad_S0 e2]
    rw [e0] at hk
    have hZ := hU.2.2.2.2.2.2.2 j e2
    rw [e3] at hZ
    have hown : s.vm.findClass RX11 = some m.cls := by have := X.2.2.2.2.1; rw [e1] at this; exact this
    exact am_ldcSW X.1 X.2.1 hown hZ hd hk
theorem sw_ldc2_w (hCK : am_CKOK) {k : Nat} (hd : decode (am_bc y) pc = .ok (.ldc2_w k, len)) (hl : am_il (.ldc2_w k) len = true) (h : am_wpi call y n0 Q (am_Wp g l y R Z) (.ldc2_w k) len n c w pc ls st M) : am_Wp g l y R Z n c w pc ls st M := by
  have hl : (len == 3) = true := hl
  have el : len = 3 := eq_of_beq hl
  subst el
  obtain ⟨v, hv, h⟩ := am_opt_inv h
  intro p e s m args below meth c0 H locs mls X hR hS hz hL hcw
  exact lv_ldc2 X.1 X.2.1 X.2.2.2.2.1 (X.2.2.2.2.2.1 _ (hCK.2.1 _ _ _ hv)) hd (h p e s m args below meth c0 H locs mls X hR hS hz hL hcw)
end AMS3
