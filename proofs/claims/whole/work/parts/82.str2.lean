/-! texts: their length, their signs, in the machine -/
theorem am_n7 {k i kd : Nat} {y' : am_Y} {ps : List Nat} (hkd : kd = 7 ∨ kd = 8) (hm : am_ml k i = some (kd, y', ps)) : k = 11 ∧ i = if kd = 7 then 123 else 129 := by
  have h : ∀ k, k < 15 → k ≠ 11 → ((am_mlT.getD k []).all fun e => e.2.1 != 7 && e.2.1 != 8) = true := by decide +kernel
  have h2 : ((am_mlT.getD 11 []).all fun e => (e.2.1 != 7 || e.1 == 123) && (e.2.1 != 8 || e.1 == 129)) = true := by decide +kernel
  have hmem := am_lk_mem hm
  by_cases h11 : k = 11
  · refine ⟨h11, ?_⟩
    rw [h11] at hmem
    have := List.all_eq_true.mp h2 _ hmem
    rcases hkd with rfl | rfl
    · simpa using this
    · simpa using this
  · by_cases h15 : k < 15
    · have := List.all_eq_true.mp (h k h15 h11) _ hmem
      rcases hkd with rfl | rfl <;> simp at this
    · have e : am_mlT.getD k [] = [] := by
        rw [List.getD_eq_getElem?_getD, List.getElem?_eq_none (by show 15 ≤ k; omega)]; rfl
      rw [e] at hmem
      exact absurd hmem List.not_mem_nil
theorem js_ln : ∀ k, k < 4 → am_lens.getD k 0 = (am_str.getD k []).length := by decide
theorem js_bt : ∀ k, k < 4 → ∀ j, j < am_lens.getD k 0 → (am_byts.getD k []).getD j 0 &&& 255 = nI ((am_str.getD k []).getD j 0) := by decide +kernel
section
variable {g : am_g} {l : Launch} {y : am_Y} {R : Room} {Z : List Frame → Array Value → State → State → Prop} {n : Nat} {M : am_M}
theorem am_R_keep {H H1 : Heap} (hR : am_R g n M H) (hk : ∀ q : Nat, q < H.size → H1[q]? = H[q]?) : am_R g n M H1 := ⟨hR.1, hR.2.1.kept (fun k q hq => hk _ (hR.2.1 k q hq).lt), hR.2.2⟩
theorem am_adS {a : Nat} (h0 : am_S0 ≤ a) (h4 : a < am_S0 + 4) : am_ad g a = g_K g (a - am_S0) := by
  unfold am_ad
  have e1 : ¬ a < am_S0 := by omega
  have e2 : a < am_SC := by
    have : (am_S0 + 4 : Nat) ≤ am_SC := by decide
    omega
  rw [if_neg e1, if_pos e2]
theorem am_s7 (hF : 9 ≤ R.frames) (hLo : 432 ≤ R.locals) : am_S7OK g l y R Z := by
  intro k y' ps n c w pc ls st M hk hd h
  obtain ⟨h11, h123⟩ := am_n7 (Or.inl rfl) hk
  have h123 : k = 123 := h123
  obtain ⟨a, r, rfl, ⟨a0, a4⟩, hr, h⟩ := am_r1_inv h
  intro p e s m args below meth c0 H locs mls X hR hS hz hL hcw
  have hts := X.2.2.2.2.2.1
  have hSU : am_SU g s s.heap := X.2.2.2.2.2.2.2.2.1.2.2.2.2
  have ha := am_adS (g := g) a0 a4
  have hkk : a - am_S0 < 4 := Nat.sub_lt_left_of_lt_add a0 a4
  have hown : s.vm.findClass "UndoTradeModel" = some m.cls := by
    have q := X.2.2.2.2.1
    rw [h11] at q
    exact q
  show W p l e R s m args below meth c0 H locs c w (Z below args s) (F0 m pc mls (.ref (am_ad g a) :: r.map (am_v g)))
  rw [ha]
  subst h123
  refine va_calli (va_runV (C := "java/lang/String") (b := g_K g (a - am_S0)) (As := []) (rest := r.map (am_v g)) ⟨X.1, X.2.1, X.2.2.2.1, hown, hts⟩ (js_len g l hkk) (cwV 0 hts js_v_len rfl rfl rfl (by decide +kernel) ⟨Nat.le_trans (by show 3 ≤ 9; omega) hF, Nat.le_trans (by show 8 + (1 + 11) + 80 ≤ 432; omega) hLo⟩) ⟨js_blind, vk_recv hSU.1 hkk hS, fun U hUH hW => ⟨rfl, js_SU hSU hS hUH hW⟩⟩ rfl rfl hL.1 rfl (am_room hr) hd hcw) hS (fun _ _ h => h.elim) (fun _ h => h.elim) (fun r1 u t H1 locs1 ht hvm hp hB q1 q2 hS1 => ?_)
  rw [hp, js_ln _ hkk]
  exact h p e s m args below meth c0 H1 locs1 mls X (am_R_keep hR (fun q hq => q2 q hq (fun z => z))) hS1 hz hL hcw
theorem am_s8 (hF : 9 ≤ R.frames) (hLo : 432 ≤ R.locals) : am_S8OK g l y R Z := by
  intro k y' ps n c w pc ls st M hk hd h
  obtain ⟨h11, h129⟩ := am_n7 (Or.inr rfl) hk
  have h129 : k = 129 := h129
  obtain ⟨a, i, r, rfl, ⟨a0, a4, hi⟩, hr, h⟩ := am_ri_inv h
  intro p e s m args below meth c0 H locs mls X hR hS hz hL hcw
  have hts := X.2.2.2.2.2.1
  have hSU : am_SU g s s.heap := X.2.2.2.2.2.2.2.2.1.2.2.2.2
  have ha := am_adS (g := g) a0 a4
  have hkk : a - am_S0 < 4 := Nat.sub_lt_left_of_lt_add a0 a4
  have hown : s.vm.findClass "UndoTradeModel" = some m.cls := by
    have q := X.2.2.2.2.1
    rw [h11] at q
    exact q
  show W p l e R s m args below meth c0 H locs c w (Z below args s) (F0 m pc mls (.int i :: .ref (am_ad g a) :: r.map (am_v g)))
  rw [ha]
  subst h129
  have h31 : ∀ k, k < 4 → (am_str.getD k []).length < 2 ^ 31 := by decide
  obtain ⟨j, hj1, rfl⟩ := vp_in_of hi (h31 _ hkk)
  have hj : j < 2 ^ 31 := Nat.lt_trans hj1 (h31 _ hkk)
  have hj2 : j < am_lens.getD (a - am_S0) 0 := by rw [js_ln _ hkk]; exact hj1
  refine va_calli (va_runV (C := "java/lang/String") (b := g_K g (a - am_S0)) (As := [.int (nI j)]) (rest := r.map (am_v g)) ⟨X.1, X.2.1, X.2.2.2.1, hown, hts⟩ (js_cha g l hkk hj2) (cwV 1 hts js_v_cha rfl rfl rfl (by decide +kernel) ⟨Nat.le_trans (by show 5 ≤ 9; omega) hF, Nat.le_trans (by show 8 + (2 + 11) + 160 ≤ 432; omega) hLo⟩) ⟨js_blind, vk_recv hSU.1 hkk hS, fun U hUH hW => ⟨rfl, js_SU hSU hS hUH hW⟩⟩ rfl rfl hL.1 rfl (am_room hr) hd hcw) hS (fun _ _ h => h.elim) (fun _ h => h.elim) (fun r1 u t H1 locs1 ht hvm hp hB q1 q2 hS1 => ?_)
  rw [hp, js_bt _ hkk _ hj2]
  rw [nI_clamp hj] at h
  exact h p e s m args below meth c0 H1 locs1 mls X (am_R_keep hR (fun q hq => q2 q hq (fun z => z))) hS1 hz hL hcw
theorem am_Stok : am_STOK g l := fun y R Z hF hLo => ⟨am_s7 hF hLo, am_s8 hF hLo⟩
end
