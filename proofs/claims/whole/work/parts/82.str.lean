def js_y_len : MethodName := ⟨"java/lang/String", "length", "()I"⟩
abbrev js_b_len : ByteArray := prog_21_method_54_code
def js_w_len : List Cond := .code js_y_len js_b_len 1 (some .int) :: am_tb
def js_y_cod : MethodName := ⟨"java/lang/String", "coder", "()B"⟩
abbrev js_b_cod : ByteArray := prog_21_method_152_code
def js_w_cod : List Cond := .code js_y_cod js_b_cod 1 (some .byte) :: am_tb
def js_y_lat : MethodName := ⟨"java/lang/String", "isLatin1", "()Z"⟩
abbrev js_b_lat : ByteArray := prog_21_method_154_code
def js_w_lat : List Cond := .code js_y_lat js_b_lat 1 (some .boolean) :: am_tb
def js_y_cha : MethodName := ⟨"java/lang/String", "charAt", "(I)C"⟩
abbrev js_b_cha : ByteArray := prog_21_method_56_code
def js_w_cha : List Cond := .code js_y_cha js_b_cha 2 (some .char) :: am_tb
def js_y_chk : MethodName := ⟨"java/lang/String", "checkIndex", "(II)V"⟩
abbrev js_b_chk : ByteArray := prog_21_method_155_code
def js_w_chk : List Cond := .code js_y_chk js_b_chk 2 (none) :: am_tb
def js_y_ch1 : MethodName := ⟨"java/lang/StringLatin1", "charAt", "([BI)C"⟩
abbrev js_b_ch1 : ByteArray := prog_22_method_2_code
def js_w_ch1 : List Cond := .code js_y_ch1 js_b_ch1 2 (some .char) :: am_tb
def js_y_pre : MethodName := ⟨"jdk/internal/util/Preconditions", "checkIndex", "(IILjava/util/function/BiFunction;)I"⟩
abbrev js_b_pre : ByteArray := prog_29_method_11_code
def js_w_pre : List Cond := .code js_y_pre js_b_pre 3 (some .int) :: am_tb
theorem js_g_len : GoodIn am_tb js_w_len := by
  intro w hw
  rcases List.mem_cons.mp hw with rfl | hw
  · exact am_gd (am_tb_at 1436 (by decide +kernel) (by decide))
  · exact am_gd hw
theorem js_g_cod : GoodIn am_tb js_w_cod := by
  intro w hw
  rcases List.mem_cons.mp hw with rfl | hw
  · exact am_gd (am_tb_at 1440 (by decide +kernel) (by decide))
  · exact am_gd hw
theorem js_g_lat : GoodIn am_tb js_w_lat := by
  intro w hw
  rcases List.mem_cons.mp hw with rfl | hw
  · exact am_gd (am_tb_at 1450 (by decide +kernel) (by decide))
  · exact am_gd hw
theorem js_g_cha : GoodIn am_tb js_w_cha := by
  intro w hw
  rcases List.mem_cons.mp hw with rfl | hw
  · exact am_gd (am_tb_at 1446 (by decide +kernel) (by decide))
  · exact am_gd hw
theorem js_g_chk : GoodIn am_tb js_w_chk := by
  intro w hw
  rcases List.mem_cons.mp hw with rfl | hw
  · exact am_gd (am_tb_at 1456 (by decide +kernel) (by decide))
  · exact am_gd hw
theorem js_g_ch1 : GoodIn am_tb js_w_ch1 := by
  intro w hw
  rcases List.mem_cons.mp hw with rfl | hw
  · exact am_gd (am_tb_at 1453 (by decide +kernel) (by decide))
  · exact am_gd hw
theorem js_g_pre : GoodIn am_tb js_w_pre := by
  intro w hw
  rcases List.mem_cons.mp hw with rfl | hw
  · exact am_gd (am_tb_at 1461 (by decide +kernel) (by decide))
  · exact am_gd hw
theorem js_v_cod : GoodIn am_tb (wsV "java/lang/String" 335 "java/lang/String" js_y_cod js_w_cod) := by
  intro w hw
  rcases List.mem_append.mp hw with hw | hw
  · simp only [List.mem_cons, List.not_mem_nil, or_false] at hw
    rcases hw with rfl | rfl | rfl | rfl
    · exact am_gd (am_tb_at 1437 (by decide +kernel) (by decide))
    · exact am_gd (am_tb_at 1438 (by decide +kernel) (by decide))
    · exact am_gd (am_tb_at 1439 (by decide +kernel) (by decide))
    · exact am_gd (am_tb_at 111 (by decide +kernel) (by decide))
  · exact js_g_cod w hw
theorem js_v_lat : GoodIn am_tb (wsV "java/lang/String" 492 "java/lang/String" js_y_lat js_w_lat) := by
  intro w hw
  rcases List.mem_append.mp hw with hw | hw
  · simp only [List.mem_cons, List.not_mem_nil, or_false] at hw
    rcases hw with rfl | rfl | rfl | rfl
    · exact am_gd (am_tb_at 1447 (by decide +kernel) (by decide))
    · exact am_gd (am_tb_at 1448 (by decide +kernel) (by decide))
    · exact am_gd (am_tb_at 1449 (by decide +kernel) (by decide))
    · exact am_gd (am_tb_at 111 (by decide +kernel) (by decide))
  · exact js_g_lat w hw
theorem js_v_ch1 : GoodIn am_tb (va_wsS "java/lang/String" 495 js_y_ch1 js_w_ch1) := by
  intro w hw
  rcases List.mem_append.mp hw with hw | hw
  · simp only [List.mem_cons, List.not_mem_nil, or_false] at hw
    rcases hw with rfl | rfl | rfl
    · exact am_gd (am_tb_at 1451 (by decide +kernel) (by decide))
    · exact am_gd (am_tb_at 1452 (by decide +kernel) (by decide))
    · exact am_gd (am_tb_at 112 (by decide +kernel) (by decide))
  · exact js_g_ch1 w hw
theorem js_v_chk : GoodIn am_tb (va_wsS "java/lang/StringLatin1" 9 js_y_chk js_w_chk) := by
  intro w hw
  rcases List.mem_append.mp hw with hw | hw
  · simp only [List.mem_cons, List.not_mem_nil, or_false] at hw
    rcases hw with rfl | rfl | rfl
    · exact am_gd (am_tb_at 1454 (by decide +kernel) (by decide))
    · exact am_gd (am_tb_at 1455 (by decide +kernel) (by decide))
    · exact am_gd (am_tb_at 111 (by decide +kernel) (by decide))
  · exact js_g_chk w hw
theorem js_v_pre : GoodIn am_tb (va_wsS "java/lang/String" 1059 js_y_pre js_w_pre) := by
  intro w hw
  rcases List.mem_append.mp hw with hw | hw
  · simp only [List.mem_cons, List.not_mem_nil, or_false] at hw
    rcases hw with rfl | rfl | rfl
    · exact am_gd (am_tb_at 1459 (by decide +kernel) (by decide))
    · exact am_gd (am_tb_at 1460 (by decide +kernel) (by decide))
    · exact am_gd (am_tb_at 113 (by decide +kernel) (by decide))
  · exact js_g_pre w hw
theorem js_v_len : GoodIn am_tb (wsV "UndoTradeModel" 123 "java/lang/String" js_y_len js_w_len) := by
  intro w hw
  rcases List.mem_append.mp hw with hw | hw
  · simp only [List.mem_cons, List.not_mem_nil, or_false] at hw
    rcases hw with rfl | rfl | rfl | rfl
    · exact am_gd (am_tb_at 1433 (by decide +kernel) (by decide))
    · exact am_gd (am_tb_at 1434 (by decide +kernel) (by decide))
    · exact am_gd (am_tb_at 1435 (by decide +kernel) (by decide))
    · exact am_gd (am_tb_at 111 (by decide +kernel) (by decide))
  · exact js_g_len w hw
theorem js_v_cha : GoodIn am_tb (wsV "UndoTradeModel" 129 "java/lang/String" js_y_cha js_w_cha) := by
  intro w hw
  rcases List.mem_append.mp hw with hw | hw
  · simp only [List.mem_cons, List.not_mem_nil, or_false] at hw
    rcases hw with rfl | rfl | rfl | rfl
    · exact am_gd (am_tb_at 1443 (by decide +kernel) (by decide))
    · exact am_gd (am_tb_at 1444 (by decide +kernel) (by decide))
    · exact am_gd (am_tb_at 1445 (by decide +kernel) (by decide))
    · exact am_gd (am_tb_at 111 (by decide +kernel) (by decide))
  · exact js_g_cha w hw
abbrev js_N : Nat → Prop := fun _ => False
def js_Q (post : Int32 → Prop) : Array Value → State → Outcome → State → Prop := va_Qi (fun (r : Int32) (_ : Unit) => post r) (fun _ _ => True) js_N
theorem js_F {s t : State} {H : Heap} (ht : t.heap = H) (hH : s.heap.size ≤ H.size) (hk : ∀ q : Nat, q < s.heap.size → H[q]? = s.heap[q]?) : va_F js_N s t := ⟨by rw [ht]; exact hH, fun q h _ => by rw [ht]; exact hk q h⟩
theorem js_SU {g : am_g} {s U : State} {H : Heap} {locs : List Loc} (hU : am_SU g s s.heap) (hS : va_S (g_F g) s.heap H locs) (hUH : U.heap = H) (hW : s.WarmedH U.vm) : am_SU g U U.heap := by
  obtain ⟨h5, h6, h6b, h7⟩ := hU
  have hk : ∀ a : Nat, a < s.heap.size → ¬ g_F g a → U.heap[a]? = s.heap[a]? := fun a hl ha => by rw [hUH]; exact hS.2.1 a hl ha
  refine ⟨(h5.kept hk).moved hW.alike, (h6.kept hk).moved hW.alike, ?_, fun k hk4 => vk_R.warm hW (h7 k hk4)⟩
  rcases h6b with q | ⟨t, q⟩
  · exact Or.inl ((q.kept hk).moved hW.alike)
  · exact Or.inr ⟨t, (q.kept hk).moved hW.alike⟩
theorem js_blind {g : am_g} {av : List Value} : FrameBlind (va_Pc av (fun U => am_SU g U U.heap)) := by
  intro a U f mk hq
  obtain ⟨h1, h2⟩ := hq
  refine ⟨h1, ?_⟩
  have e1 : (U.calling f mk a).heap = U.heap := rfl
  have e2 : (U.calling f mk a).vm = U.vm := rfl
  exact js_SU (locs := []) h2 va_S.rf e1 (by rw [e2]; exact State.WarmedH.refl U)
theorem js_wk {g : am_g} {H0 H : Heap} {locs : List Loc} (h : va_S js_N H0 H locs) : va_S (g_F g) H0 H locs := ⟨h.1, fun q hq _ => h.2.1 q hq (fun z => z), fun q hq => (h.2.2 q hq).elim⟩
theorem js_end {s t : State} {H : Heap} {locs : List Loc} (h : va_S js_N s.heap H locs) (ht : t.heap = H) : va_F js_N s t := js_F ht h.1 (fun q hq => h.2.1 q hq (fun z => z))
set_option maxRecDepth 100000 in
theorem js_cod (g : am_g) (l : Launch) {k : Nat} (hk : k < 4) : Met l js_y_cod js_w_cod ({ frames := 1, cells := 0, slots := 0, locals := 40 }) (va_Pc [.ref (g_K g k)] (fun U => am_SU g U U.heap)) (js_Q (fun r => r = 0)) 0 0 js_N := by
  refine Met.ofW (cc := js_b_cod) (maxL := 1) (ret := some .byte) (by decide +kernel) rfl ?_
  intro p e s m args below meth c s₁ B hml hv
  obtain ⟨rfl, hSU⟩ := hv
  have hx := B.exec
  have hb := B.bytes
  have hr := B.returns
  have hts0 := atoms_spec (ws := js_w_cod) B.pre
  have hts : ∀ w ∈ am_tb, w.before ([.ref (g_K g k)] : List Value).toArray s = true := fun w hw => hts0 w (List.mem_cons_of_mem _ hw)
  have hown : s.vm.findClass "java/lang/String" = some m.cls := findClass_of_methodNamed B.named
  have hlocks := B.notSynchronized
  have hN : va_S js_N s.heap s.heap [] := va_S.rf
  have hS : va_S (g_F g) s.heap s.heap [] := js_wk hN
  have hl := lv_entry ([.ref (g_K g k)]) (n := 1) (Nat.le_of_ble_eq_true rfl)
  rw [lg_entry_eq]
  generalize (lg_sl ([.ref (g_K g k)]) ++ List.replicate (1 - (lg_sl ([.ref (g_K g k)])).length) Slot.unset).toArray = ls at hl ⊢
  refine va_gets hx hb hSU.2.1 hS hown (hts (.fieldLink "java/lang/String" 38 "java/lang/String" "COMPACT_STRINGS" "Z") (am_tb_at 1441 (by decide +kernel) (by decide))) (fun _ h => h) (by decide +kernel) ?_
  refine lv_if_eq (off := 10) (tgt := 13) hx hb (by decide +kernel) (by decide) (fun h => absurd h (by decide)) (fun _ => ?_)
  refine lv_aload_n hx hb (show decode _ _ = .ok (.aload_n 0, 1) by decide +kernel) rfl (lv_at hl 0 rfl) ?_
  refine vk_getf hx hb (hSU.1.1 k hk).2.1 hS hown (hts (.fieldLink "java/lang/String" 15 "java/lang/String" "coder" "B") (am_tb_at 1928 (by decide +kernel) (by decide))) (fun _ h => h) (by decide +kernel) ?_
  refine lv_goto (off := 4) (tgt := 14) hx hb (by decide +kernel) (by decide) ?_
  exact W.zret hx hb hr (by decide) (fun t ht _ => ⟨⟨_, (), rfl, rfl, trivial⟩, js_end hN ht⟩) hN.2.2 (by decide +kernel) hlocks
set_option maxRecDepth 100000 in
theorem js_lat (g : am_g) (l : Launch) {k : Nat} (hk : k < 4) : Met l js_y_lat js_w_lat ({ frames := 1, cells := 0, slots := 0, locals := 40 }) (va_Pc [.ref (g_K g k)] (fun U => am_SU g U U.heap)) (js_Q (fun r => r = 1)) 0 0 js_N := by
  refine Met.ofW (cc := js_b_lat) (maxL := 1) (ret := some .boolean) (by decide +kernel) rfl ?_
  intro p e s m args below meth c s₁ B hml hv
  obtain ⟨rfl, hSU⟩ := hv
  have hx := B.exec
  have hb := B.bytes
  have hr := B.returns
  have hts0 := atoms_spec (ws := js_w_lat) B.pre
  have hts : ∀ w ∈ am_tb, w.before ([.ref (g_K g k)] : List Value).toArray s = true := fun w hw => hts0 w (List.mem_cons_of_mem _ hw)
  have hown : s.vm.findClass "java/lang/String" = some m.cls := findClass_of_methodNamed B.named
  have hlocks := B.notSynchronized
  have hN : va_S js_N s.heap s.heap [] := va_S.rf
  have hS : va_S (g_F g) s.heap s.heap [] := js_wk hN
  have hl := lv_entry ([.ref (g_K g k)]) (n := 1) (Nat.le_of_ble_eq_true rfl)
  rw [lg_entry_eq]
  generalize (lg_sl ([.ref (g_K g k)]) ++ List.replicate (1 - (lg_sl ([.ref (g_K g k)])).length) Slot.unset).toArray = ls at hl ⊢
  refine va_gets hx hb hSU.2.1 hS hown (hts (.fieldLink "java/lang/String" 38 "java/lang/String" "COMPACT_STRINGS" "Z") (am_tb_at 1441 (by decide +kernel) (by decide))) (fun _ h => h) (by decide +kernel) ?_
  refine lv_if_eq (off := 14) (tgt := 17) hx hb (by decide +kernel) (by decide) (fun h => absurd h (by decide)) (fun _ => ?_)
  refine lv_aload_n hx hb (show decode _ _ = .ok (.aload_n 0, 1) by decide +kernel) rfl (lv_at hl 0 rfl) ?_
  refine vk_getf hx hb (hSU.1.1 k hk).2.1 hS hown (hts (.fieldLink "java/lang/String" 15 "java/lang/String" "coder" "B") (am_tb_at 1928 (by decide +kernel) (by decide))) (fun _ h => h) (by decide +kernel) ?_
  refine lv_if_ne (off := 7) (tgt := 17) hx hb (by decide +kernel) (by decide) (fun h => absurd rfl h) (fun _ => ?_)
  refine lv_iconst (n := 1) (v := 1) hx hb (by decide +kernel) (by decide) ?_
  refine lv_goto (off := 4) (tgt := 18) hx hb (by decide +kernel) (by decide) ?_
  exact W.zret hx hb hr (by decide) (fun t ht _ => ⟨⟨_, (), rfl, rfl, trivial⟩, js_end hN ht⟩) hN.2.2 (by decide +kernel) hlocks
set_option maxRecDepth 100000 in
theorem js_len (g : am_g) (l : Launch) {k : Nat} (hk : k < 4) : Met l js_y_len js_w_len ({ frames := 2, cells := 0, slots := 0, locals := 80 }) (va_Pc [.ref (g_K g k)] (fun U => am_SU g U U.heap)) (js_Q (fun r => r = nI (am_lens.getD k 0))) 0 0 js_N := by
  refine Met.ofW (cc := js_b_len) (maxL := 1) (ret := some .int) (by decide +kernel) rfl ?_
  intro p e s m args below meth c s₁ B hml hv
  obtain ⟨rfl, hSU⟩ := hv
  have hx := B.exec
  have hb := B.bytes
  have hr := B.returns
  have hts0 := atoms_spec (ws := js_w_len) B.pre
  have hts : ∀ w ∈ am_tb, w.before ([.ref (g_K g k)] : List Value).toArray s = true := fun w hw => hts0 w (List.mem_cons_of_mem _ hw)
  have hown : s.vm.findClass "java/lang/String" = some m.cls := findClass_of_methodNamed B.named
  have hlocks := B.notSynchronized
  have hN : va_S js_N s.heap s.heap [] := va_S.rf
  have hS : va_S (g_F g) s.heap s.heap [] := js_wk hN
  have hl := lv_entry ([.ref (g_K g k)]) (n := 1) (Nat.le_of_ble_eq_true rfl)
  rw [lg_entry_eq]
  generalize (lg_sl ([.ref (g_K g k)]) ++ List.replicate (1 - (lg_sl ([.ref (g_K g k)])).length) Slot.unset).toArray = ls at hl ⊢
  have hT := (hSU.1.1 k hk).2.2.2
  refine lv_aload_n hx hb (show decode _ _ = .ok (.aload_n 0, 1) by decide +kernel) rfl (lv_at hl 0 rfl) ?_
  refine vk_getf hx hb (hSU.1.1 k hk).2.2.1 hS hown (hts (.fieldLink "java/lang/String" 9 "java/lang/String" "value" "[B") (am_tb_at 1927 (by decide +kernel) (by decide))) (fun _ h => h) (by decide +kernel) ?_
  refine va_tlen hx hb hT hS (v := nI (am_lens.getD k 0)) rfl (by decide +kernel) ?_
  refine lv_aload_n hx hb (show decode _ _ = .ok (.aload_n 0, 1) by decide +kernel) rfl (lv_at hl 0 rfl) ?_
  refine va_calli (va_runV (C := "java/lang/String") (b := g_K g k) (As := []) (rest := [.int (nI (am_lens.getD k 0))]) ⟨hx, hb, hml, hown, hts⟩ (js_cod g l hk) (cwV 0 hts js_v_cod rfl rfl rfl (by decide +kernel) ⟨Nat.le_of_ble_eq_true rfl, Nat.le_of_ble_eq_true rfl⟩) ⟨js_blind, vk_recv hSU.1 hk hS, fun U hUH hW => ⟨rfl, js_SU hSU hS hUH hW⟩⟩ rfl rfl hl.1 rfl (lv_room (Nat.le_of_ble_eq_true rfl)) (show decode js_b_len 6 = .ok (.invokevirtual 335, 3) by decide +kernel) ⟨Nat.zero_le _, Nat.zero_le _⟩) hN (fun _ _ h => h) (fun _ h => h) (fun r u t H locs ht hvm hp hB h1 h2 hN => ?_)
  have hS : va_S (g_F g) s.heap H locs := js_wk hN
  subst hp
  refine lv_ishr hx hb (by decide +kernel) ?_
  rw [sb_shr0]
  exact W.iret hx hb hr (fun t ht _ => ⟨⟨_, (), rfl, rfl, trivial⟩, js_end hN ht⟩) hN.2.2 (by decide +kernel) hlocks
set_option maxRecDepth 100000 in
theorem js_pre (g : am_g) (l : Launch) {i q : Int32} {v : Value} (hv1 : v.category = 1) (h0 : 0 ≤ i) (h1 : i < q) : Met l js_y_pre js_w_pre ({ frames := 1, cells := 0, slots := 0, locals := 40 }) (va_Pc [.int i, .int q, v] (fun U => am_SU g U U.heap)) (js_Q (fun r => r = i)) 0 0 js_N := by
  refine Met.ofW (cc := js_b_pre) (maxL := 3) (ret := some .int) (by decide +kernel) rfl ?_
  intro p e s m args below meth c s₁ B hml hv
  obtain ⟨rfl, hSU⟩ := hv
  have hx := B.exec
  have hb := B.bytes
  have hr := B.returns
  have hts0 := atoms_spec (ws := js_w_pre) B.pre
  have hts : ∀ w ∈ am_tb, w.before ([.int i, .int q, v] : List Value).toArray s = true := fun w hw => hts0 w (List.mem_cons_of_mem _ hw)
  have hown : s.vm.findClass "jdk/internal/util/Preconditions" = some m.cls := findClass_of_methodNamed B.named
  have hlocks := B.notSynchronized
  have hN : va_S js_N s.heap s.heap [] := va_S.rf
  have hS : va_S (g_F g) s.heap s.heap [] := js_wk hN
  have hl := lv_entry ([.int i, .int q, v]) (n := 3) (by cases v <;> first | exact Nat.le_of_ble_eq_true rfl | cases hv1)
  rw [lg_entry_eq]
  generalize (lg_sl ([.int i, .int q, v]) ++ List.replicate (3 - (lg_sl ([.int i, .int q, v])).length) Slot.unset).toArray = ls at hl ⊢
  have hlt : ¬ i < 0 := Int32.not_lt.mpr h0
  refine lv_iload_n hx hb (show decode _ _ = .ok (.iload_n 0, 1) by decide +kernel) rfl (lv_at hl 0 rfl) ?_
  refine lv_if_lt (off := 8) (tgt := 9) hx hb (by decide +kernel) (by decide) (fun h => absurd h hlt) (fun _ => ?_)
  refine lv_iload_n hx hb (show decode _ _ = .ok (.iload_n 0, 1) by decide +kernel) rfl (lv_at hl 0 rfl) ?_
  refine lv_iload_n hx hb (show decode _ _ = .ok (.iload_n 1, 1) by decide +kernel) rfl (lv_at hl 1 rfl) ?_
  refine lv_icmp_lt (off := 10) (tgt := 16) hx hb (by decide +kernel) (by decide) (fun _ => ?_) (fun h => absurd h1 h)
  refine lv_iload_n hx hb (show decode _ _ = .ok (.iload_n 0, 1) by decide +kernel) rfl (lv_at hl 0 rfl) ?_
  exact W.iret hx hb hr (fun t ht _ => ⟨⟨_, (), rfl, rfl, trivial⟩, js_end hN ht⟩) hN.2.2 (by decide +kernel) hlocks
set_option maxRecDepth 100000 in
theorem js_chk (g : am_g) (l : Launch) {i q : Int32} (h0 : 0 ≤ i) (h1 : i < q) : Met l js_y_chk js_w_chk ({ frames := 2, cells := 0, slots := 0, locals := 80 }) (va_Pc [.int i, .int q] (fun U => am_SU g U U.heap)) (va_Qv (fun _ : Unit => True) (fun _ _ => True) js_N) 0 0 js_N := by
  refine Met.ofW (cc := js_b_chk) (maxL := 2) (ret := none) (by decide +kernel) rfl ?_
  intro p e s m args below meth c s₁ B hml hv
  obtain ⟨rfl, hSU⟩ := hv
  have hx := B.exec
  have hb := B.bytes
  have hr := B.returns
  have hts0 := atoms_spec (ws := js_w_chk) B.pre
  have hts : ∀ w ∈ am_tb, w.before ([.int i, .int q] : List Value).toArray s = true := fun w hw => hts0 w (List.mem_cons_of_mem _ hw)
  have hown : s.vm.findClass "java/lang/String" = some m.cls := findClass_of_methodNamed B.named
  have hlocks := B.notSynchronized
  have hN : va_S js_N s.heap s.heap [] := va_S.rf
  have hS : va_S (g_F g) s.heap s.heap [] := js_wk hN
  have hl := lv_entry ([.int i, .int q]) (n := 2) (Nat.le_of_ble_eq_true rfl)
  rw [lg_entry_eq]
  generalize (lg_sl ([.int i, .int q]) ++ List.replicate (2 - (lg_sl ([.int i, .int q])).length) Slot.unset).toArray = ls at hl ⊢
  refine lv_iload_n hx hb (show decode _ _ = .ok (.iload_n 0, 1) by decide +kernel) rfl (lv_at hl 0 rfl) ?_
  refine lv_iload_n hx hb (show decode _ _ = .ok (.iload_n 1, 1) by decide +kernel) rfl (lv_at hl 1 rfl) ?_
  have go : ∀ v : Value, v.category = 1 → W p l e (headSpec js_w_chk ({ frames := 2, cells := 0, slots := 0, locals := 80 })).room s m ([.int i, .int q] : List Value).toArray below meth c s.heap [] 0 0 (MQ below (va_Qv (fun _ : Unit => True) (fun _ _ => True) js_N) ([.int i, .int q] : List Value).toArray s 0 0 js_N) (F0 m 5 ls [v, .int q, .int i]) := by
    intro v hv
    refine va_calli (va_runS (As := [.int i, .int q, v]) (rest := []) ⟨hx, hb, hml, hown, hts⟩ (js_pre g l hv h0 h1) (va_cwS 3 hts js_v_pre rfl rfl rfl (by decide +kernel) ⟨Nat.le_of_ble_eq_true rfl, Nat.le_of_ble_eq_true rfl⟩) ⟨js_blind, fun U hUH hW => ⟨rfl, js_SU hSU hS hUH hW⟩⟩ rfl rfl hl.1 rfl (lv_room (Nat.le_of_ble_eq_true rfl)) (show decode js_b_chk 5 = .ok (.invokestatic 1059, 3) by decide +kernel) ⟨Nat.zero_le _, Nat.zero_le _⟩) hN (fun _ _ h => h) (fun _ h => h) (fun r u t H locs ht hvm hp hB h1 h2 hN => ?_)
    refine lv_pop hx hb (by decide +kernel) rfl ?_
    exact W.vret hx hb hr (fun t ht _ => ⟨⟨(), rfl, trivial, trivial⟩, js_end hN ht⟩) hN.2.2 (by decide +kernel) hlocks
  rcases hSU.2.2.1 with hq | ⟨t, hq⟩
  · exact va_gets hx hb hq hS hown (hts (.fieldLink "java/lang/String" 1053 "jdk/internal/util/Preconditions" "SIOOBE_FORMATTER" "Ljava/util/function/BiFunction;") (am_tb_at 1457 (by decide +kernel) (by decide))) (fun _ h => h) (by decide +kernel) (go .null rfl)
  · exact va_gets hx hb hq hS hown (hts (.fieldLink "java/lang/String" 1053 "jdk/internal/util/Preconditions" "SIOOBE_FORMATTER" "Ljava/util/function/BiFunction;") (am_tb_at 1457 (by decide +kernel) (by decide))) (fun _ h => h) (by decide +kernel) (go (.ref t) rfl)
set_option maxRecDepth 100000 in
theorem js_ch1 (g : am_g) (l : Launch) {k j : Nat} (hk : k < 4) (hj : j < am_lens.getD k 0) : Met l js_y_ch1 js_w_ch1 ({ frames := 3, cells := 0, slots := 0, locals := 120 }) (va_Pc [.ref (g_V g k), .int (nI j)] (fun U => am_SU g U U.heap)) (js_Q (fun r => r = (am_byts.getD k []).getD j 0 &&& 255)) 0 0 js_N := by
  refine Met.ofW (cc := js_b_ch1) (maxL := 2) (ret := some .char) (by decide +kernel) rfl ?_
  intro p e s m args below meth c s₁ B hml hv
  obtain ⟨rfl, hSU⟩ := hv
  have hx := B.exec
  have hb := B.bytes
  have hr := B.returns
  have hts0 := atoms_spec (ws := js_w_ch1) B.pre
  have hts : ∀ w ∈ am_tb, w.before ([.ref (g_V g k), .int (nI j)] : List Value).toArray s = true := fun w hw => hts0 w (List.mem_cons_of_mem _ hw)
  have hown : s.vm.findClass "java/lang/StringLatin1" = some m.cls := findClass_of_methodNamed B.named
  have hlocks := B.notSynchronized
  have hN : va_S js_N s.heap s.heap [] := va_S.rf
  have hS : va_S (g_F g) s.heap s.heap [] := js_wk hN
  have hl := lv_entry ([.ref (g_V g k), .int (nI j)]) (n := 2) (Nat.le_of_ble_eq_true rfl)
  rw [lg_entry_eq]
  generalize (lg_sl ([.ref (g_V g k), .int (nI j)]) ++ List.replicate (2 - (lg_sl ([.ref (g_V g k), .int (nI j)])).length) Slot.unset).toArray = ls at hl ⊢
  have hT := (hSU.1.1 k hk).2.2.2
  have hb4 : ∀ k, k < 4 → am_lens.getD k 0 < 2 ^ 31 := by decide
  have h31 := hb4 k hk
  refine lv_iload_n hx hb (show decode _ _ = .ok (.iload_n 1, 1) by decide +kernel) rfl (lv_at hl 1 rfl) ?_
  refine lv_aload_n hx hb (show decode _ _ = .ok (.aload_n 0, 1) by decide +kernel) rfl (lv_at hl 0 rfl) ?_
  refine va_tlen hx hb hT hS (v := nI (am_lens.getD k 0)) rfl (by decide +kernel) ?_
  refine va_callv (va_runS (As := [.int (nI j), .int (nI (am_lens.getD k 0))]) (rest := []) ⟨hx, hb, hml, hown, hts⟩ (js_chk g l (i := nI j) (q := nI (am_lens.getD k 0)) (nI_pos' (by omega)) (nI_lt hj h31)) (va_cwS 2 hts js_v_chk rfl rfl rfl (by decide +kernel) ⟨Nat.le_of_ble_eq_true rfl, Nat.le_of_ble_eq_true rfl⟩) ⟨js_blind, fun U hUH hW => ⟨rfl, js_SU hSU hS hUH hW⟩⟩ rfl rfl hl.1 rfl (lv_room (Nat.le_of_ble_eq_true rfl)) (show decode js_b_ch1 3 = .ok (.invokestatic 9, 3) by decide +kernel) ⟨Nat.zero_le _, Nat.zero_le _⟩) hN (fun _ _ h => h) (fun _ h => h) (fun u t H locs ht hvm hp hB h1 h2 hN => ?_)
  have hS : va_S (g_F g) s.heap H locs := js_wk hN
  refine lv_aload_n hx hb (show decode _ _ = .ok (.aload_n 0, 1) by decide +kernel) rfl (lv_at hl 0 rfl) ?_
  refine lv_iload_n hx hb (show decode _ _ = .ok (.iload_n 1, 1) by decide +kernel) rfl (lv_at hl 1 rfl) ?_
  refine va_tb hx hb hT hS (vp_in_nI hj h31) (v := .int ((am_byts.getD k []).getD j 0)) (by rw [nI_clamp (by omega)]) (by decide +kernel) ?_
  refine lv_sipush (n := 255) (v := 255) hx hb (by decide +kernel) (by decide) ?_
  refine lv_iand hx hb (by decide +kernel) ?_
  refine lv_i2c hx hb (v := (am_byts.getD k []).getD j 0 &&& 255) (by decide +kernel) (sc_c2 _) ?_
  exact W.zret hx hb hr (sc_nar _) (fun t ht _ => ⟨⟨_, (), rfl, rfl, trivial⟩, js_end hN ht⟩) hN.2.2 (by decide +kernel) hlocks
set_option maxRecDepth 100000 in
theorem js_cha (g : am_g) (l : Launch) {k j : Nat} (hk : k < 4) (hj : j < am_lens.getD k 0) : Met l js_y_cha js_w_cha ({ frames := 4, cells := 0, slots := 0, locals := 160 }) (va_Pc [.ref (g_K g k), .int (nI j)] (fun U => am_SU g U U.heap)) (js_Q (fun r => r = (am_byts.getD k []).getD j 0 &&& 255)) 0 0 js_N := by
  refine Met.ofW (cc := js_b_cha) (maxL := 2) (ret := some .char) (by decide +kernel) rfl ?_
  intro p e s m args below meth c s₁ B hml hv
  obtain ⟨rfl, hSU⟩ := hv
  have hx := B.exec
  have hb := B.bytes
  have hr := B.returns
  have hts0 := atoms_spec (ws := js_w_cha) B.pre
  have hts : ∀ w ∈ am_tb, w.before ([.ref (g_K g k), .int (nI j)] : List Value).toArray s = true := fun w hw => hts0 w (List.mem_cons_of_mem _ hw)
  have hown : s.vm.findClass "java/lang/String" = some m.cls := findClass_of_methodNamed B.named
  have hlocks := B.notSynchronized
  have hN : va_S js_N s.heap s.heap [] := va_S.rf
  have hS : va_S (g_F g) s.heap s.heap [] := js_wk hN
  have hl := lv_entry ([.ref (g_K g k), .int (nI j)]) (n := 2) (Nat.le_of_ble_eq_true rfl)
  rw [lg_entry_eq]
  generalize (lg_sl ([.ref (g_K g k), .int (nI j)]) ++ List.replicate (2 - (lg_sl ([.ref (g_K g k), .int (nI j)])).length) Slot.unset).toArray = ls at hl ⊢
  refine lv_aload_n hx hb (show decode _ _ = .ok (.aload_n 0, 1) by decide +kernel) rfl (lv_at hl 0 rfl) ?_
  refine va_calli (va_runV (C := "java/lang/String") (b := g_K g k) (As := []) (rest := []) ⟨hx, hb, hml, hown, hts⟩ (js_lat g l hk) (cwV 0 hts js_v_lat rfl rfl rfl (by decide +kernel) ⟨Nat.le_of_ble_eq_true rfl, Nat.le_of_ble_eq_true rfl⟩) ⟨js_blind, vk_recv hSU.1 hk hS, fun U hUH hW => ⟨rfl, js_SU hSU hS hUH hW⟩⟩ rfl rfl hl.1 rfl (lv_room (Nat.le_of_ble_eq_true rfl)) (show decode js_b_cha 1 = .ok (.invokevirtual 492, 3) by decide +kernel) ⟨Nat.zero_le _, Nat.zero_le _⟩) hN (fun _ _ h => h) (fun _ h => h) (fun r u t H locs ht hvm hp hB h1 h2 hN => ?_)
  have hS : va_S (g_F g) s.heap H locs := js_wk hN
  subst hp
  refine lv_if_eq (off := 12) (tgt := 16) hx hb (by decide +kernel) (by decide) (fun h => absurd h (by decide)) (fun _ => ?_)
  refine lv_aload_n hx hb (show decode _ _ = .ok (.aload_n 0, 1) by decide +kernel) rfl (lv_at hl 0 rfl) ?_
  refine vk_getf hx hb (hSU.1.1 k hk).2.2.1 hS hown (hts (.fieldLink "java/lang/String" 9 "java/lang/String" "value" "[B") (am_tb_at 1927 (by decide +kernel) (by decide))) (fun _ h => h) (by decide +kernel) ?_
  refine lv_iload_n hx hb (show decode _ _ = .ok (.iload_n 1, 1) by decide +kernel) rfl (lv_at hl 1 rfl) ?_
  refine va_calli (va_runS (As := [.ref (g_V g k), .int (nI j)]) (rest := []) ⟨hx, hb, hml, hown, hts⟩ (js_ch1 g l hk hj) (va_cwS 2 hts js_v_ch1 rfl rfl rfl (by decide +kernel) ⟨Nat.le_of_ble_eq_true rfl, Nat.le_of_ble_eq_true rfl⟩) ⟨js_blind,  fun U hUH hW => ⟨rfl, js_SU hSU hS hUH hW⟩⟩ rfl rfl hl.1 rfl (lv_room (Nat.le_of_ble_eq_true rfl)) (show decode js_b_cha 12 = .ok (.invokestatic 495, 3) by decide +kernel) ⟨Nat.zero_le _, Nat.zero_le _⟩) hN (fun _ _ h => h) (fun _ h => h) (fun r u t H locs ht hvm hp hB h1 h2 hN => ?_)
  have hS : va_S (g_F g) s.heap H locs := js_wk hN
  subst hp
  exact W.zret hx hb hr (sc_nar _) (fun t ht _ => ⟨⟨_, (), rfl, rfl, trivial⟩, js_end hN ht⟩) hN.2.2 (by decide +kernel) hlocks
