section AMS5
variable {call : am_C} {g : am_g} {l : Launch} {y y' : am_Y} {R : Room} {Z : List Frame → Array Value → State → State → Prop} {n0 n c w pc len d : Nat} {Q : am_Q} {ls : List (Option Value)} {st : List Value} {M : am_M}
/-- what a call needs of a method: its words, its own text -/
def am_MD (y' : am_Y) : Prop := am_Gy y' ∧ Cond.code (am_nm y') (am_bc y') (am_mx y') (am_rt y') ∈ am_tb ∧ Cond.initialized (am_nm y').cls ∈ am_tb ∧ ((am_nm y').cls ≠ "java/lang/invoke/MethodHandle" ∧ (am_nm y').cls ≠ "java/lang/invoke/VarHandle" ∧ (parseMethodDescriptor (am_nm y').desc).map (fun d => d.parameters.length) = some (am_np y')) ∧ plainName (am_nm y').cls = true ∧ (am_al y').1 = (am_al y').2.1 ∧ am_sp y' = false ∧ am_cn y' ≠ 12
def am_LK (k i kd : Nat) (y' : am_Y) : Prop := match kd with
  | 0 => am_MD y' ∧ Cond.methodLink (am_cls k) i (am_nm y') ∈ am_tb ∧ Cond.instanceMethod (am_nm y') ∈ am_tb ∧ Cond.selects (am_nm y').cls (am_nm y') (am_nm y') ∈ am_tb ∧ ∃ r, vwCl[am_cn y']? = some r ∧ r.1 = (am_nm y').cls
  | 1 => am_MD y' ∧ Cond.methodLink (am_cls k) i (am_nm y') ∈ am_tb ∧ Cond.static (am_nm y') ∈ am_tb
  | 2 => am_MD y' ∧ Cond.methodLink (am_cls k) i (am_nm y') ∈ am_tb ∧ Cond.instanceMethod (am_nm y') ∈ am_tb ∧ (am_nm y').name = "<init>" ∧ am_rt y' = none
  | 3 => am_MD y' ∧ Cond.methodLinkNest (am_cls k) i (am_nm y') "UndoTrade" ∈ lw_tbl ∧ Cond.static (am_nm y') ∈ am_tb
  | 4 => am_MD y' ∧ Cond.methodLinkNest (am_cls k) i (am_nm y') "UndoTrade" ∈ lw_tbl ∧ Cond.instanceMethod (am_nm y') ∈ am_tb ∧ (am_nm y').name = "<init>" ∧ am_rt y' = none
  | 5 => Cond.methodLink (am_cls k) i Lib.objectInit ∈ am_tb
  | 6 => Cond.methodLink (am_cls k) i arraycopyName ∈ am_tb
  | 10 => Cond.methodLink (am_cls k) i Lib.Math.max.name ∈ am_tb
  | 11 => Cond.methodLink (am_cls k) i Lib.Math.min.name ∈ am_tb
  | 12 => Cond.methodLink (am_cls k) i Lib.Math.abs.name ∈ am_tb
  | 13 => Cond.methodLink (am_cls k) i Lib.MathLoose.max_long.x ∈ am_tb
  | 14 => Cond.methodLink (am_cls k) i Lib.MathLoose.min_long.x ∈ am_tb
  | _ => True
def am_MLOK : Prop := (∀ (k i kd : Nat) (y' : am_Y) (ps : List Nat), am_ml k i = some (kd, y', ps) → am_LK k i kd y') ∧ (Cond.instanceMethod Lib.objectInit ∈ am_tb ∧ Cond.code Lib.objectInit ⟨#[0xb1]⟩ 1 none ∈ am_tb) ∧ Cond.native arraycopyName ∈ am_tb ∧ Cond.static arraycopyName ∈ am_tb ∧ Cond.initialized "java/lang/System" ∈ am_tb
/-- the contracts of what is called -/
def am_CD (g : am_g) (l : Launch) (d : Nat) : Prop := ∀ (y' : am_Y) (as : List Value) (n : Nat) (M : am_M) (K : am_Q), am_big d y' as n M K → am_MD y' → (as.map fun v => v.category).sum ≤ am_mx y' → Met l (am_nm y') (am_ww y') (am_rm d y') (va_Pc (as.map (am_v g)) (am_Pre g n M)) (am_Qc g y' K (n + (am_al y').1)) (am_al y').2.1 (am_al y').2.2 (g_F g)
theorem am_gd {w : Cond} (h : w ∈ am_tb) : w ∈ am_tb ∧ ((w.onTables && w.keeps) = true ∨ ∃ ty, w = .arrayClass ty) := ⟨h, good_of_word (am_tb_good h)⟩
theorem am_ww_good (hm : am_MD y') : GoodIn am_tb (am_ww y') := by
  intro w hw
  rcases List.mem_cons.mp hw with rfl | hw
  · exact am_gd hm.2.1
  · exact am_gd hw
theorem am_U_at {s U : State} {H : Heap} {locs : List Loc} (hU : am_U g s s.heap) (hS : va_S (g_F g) s.heap H locs) (hb : g_b g ≤ s.heap.size) (hUH : U.heap = H) (hW : s.WarmedH U.vm) : am_U g U U.heap := by
  obtain ⟨h1, h2, h3, h4, h5, h6, h6b, h7⟩ := hU
  have hk : ∀ a : Nat, ¬ g_F g a → a < s.heap.size → U.heap[a]? = s.heap[a]? := fun a ha hl => by rw [hUH]; exact hS.2.1 a hl ha
  refine ⟨va_K.moved hW.alike h1, ?_, h3, ⟨h4.1, fun a i x hx => va_Nw.warmM hW (h4.2.1 a i x hx), va_AO.moved hW.alike h4.2.2.1, va_AO.moved hW.alike h4.2.2.2.1, va_AO.moved hW.alike h4.2.2.2.2⟩, ?_, ?_, ?_, ?_⟩
  · exact (h2.kept (hk _ (Nat.not_le.mpr h3) (Nat.lt_of_lt_of_le h3 hb))).moved hW.alike
  · exact (h5.kept (fun a hl ha => hk a ha hl)).moved hW.alike
  · exact (h6.kept (fun a hl ha => hk a ha hl)).moved hW.alike
  · rcases h6b with q | ⟨t, q⟩
    · exact Or.inl ((q.kept (fun a hl ha => hk a ha hl)).moved hW.alike)
    · exact Or.inr ⟨t, (q.kept (fun a hl ha => hk a ha hl)).moved hW.alike⟩
  · intro k hk4
    exact vk_R.warm hW (h7 k hk4)
theorem am_Pre_ok {s : State} {H : Heap} {locs : List Loc} {p : Program} {m : MethodId} {args : Array Value} {meth : Method} {c0 : Code} (X : am_Cx g y p s m args meth c0) (hR : am_R g n M H) (hS : va_S (g_F g) s.heap H locs) (hz : am_Sz g s n c) (hsz : H.size ≤ s.heap.size + c) (U : State) (hUH : U.heap = H) (hW : s.WarmedH U.vm) : am_Pre g n M U := by
  refine ⟨by rw [hUH]; exact hR, am_U_at X.2.2.2.2.2.2.2.2.1 hS X.2.2.2.2.2.2.2.2.2 hUH hW, ?_, ?_⟩
  · rw [hUH]; exact Nat.le_trans X.2.2.2.2.2.2.2.2.2 hS.1
  · intro hn; rw [hUH]; have := hz hn; omega
theorem am_Pre_blind {av : List Value} : FrameBlind (va_Pc av (am_Pre g n M)) := by
  intro a U f mk hq
  obtain ⟨h1, h2, h3, h4, h5⟩ := hq
  refine ⟨h1, h2, ?_, h4, h5⟩
  have e1 : (U.calling f mk a).heap = U.heap := rfl
  have e2 : (U.calling f mk a).vm = U.vm := rfl
  exact am_U_at (locs := []) h3 va_S.rf h4 e1 (by rw [e2]; exact State.WarmedH.refl U)
/-- behind a call -/
theorem am_after {p : Program} {e : Env} {s : State} {m : MethodId} {args : Array Value} {below : List Frame} {meth : Method} {c0 : Code} {H : Heap} {locs : List Loc} {mls : Array Slot} {a : Array Value} {st0 rest : List Value} (X : am_Cx g y p s m args meth c0) (hS : va_S (g_F g) s.heap H locs) (hz : am_Sz g s n c) (hL : am_Ls g mls (am_mx y) ls) (hal : (am_al y').1 = (am_al y').2.1) (hcw2 : c + (am_al y').2.1 ≤ R.cells ∧ w + (am_al y').2.2 ≤ R.slots)
    (hr : va_Run p l e R s m args below meth c0 H locs c w (am_al y').2.1 (am_al y').2.2 (F0 m pc mls st0) (rest.map (am_v g)) (am_Qc g y' (am_cont y' (am_Wp g l y R Z) n c w (pc + 3) ls rest) (n + (am_al y').1) a) (g_F g)) : W p l e R s m args below meth c0 H locs c w (Z below args s) (F0 m pc mls st0) := by
  have hz2 : am_Sz g s (n + (am_al y').1) (c + (am_al y').2.1) := fun q => by have := hz (by omega); omega
  unfold am_Qc at hr
  cases hrt : am_rt y' with
  | none =>
    simp only [hrt] at hr
    refine va_callv hr hS (fun _ _ h => h) (fun _ h => h) (fun u t H1 locs1 ht hvm hp hB h1 h2 hS1 => ?_)
    unfold am_cont at hp
    simp only [hrt] at hp
    exact hp p e s m args below meth c0 H1 locs1 mls X (by rw [← ht]; exact hB) hS1 hz2 hL hcw2
  | some ty =>
    cases ty with
    | long =>
      simp only [hrt] at hr
      refine va_calll hr hS (fun _ _ h => h) (fun _ h => h) (fun r u t H1 locs1 ht hvm hp hB h1 h2 hS1 => ?_)
      unfold am_cont at hp
      simp only [hrt] at hp
      exact hp p e s m args below meth c0 H1 locs1 mls X (by rw [← ht]; exact hB) hS1 hz2 hL hcw2
    | int =>
      simp only [hrt] at hr
      refine va_calli hr hS (fun _ _ h => h) (fun _ h => h) (fun r u t H1 locs1 ht hvm hp hB h1 h2 hS1 => ?_)
      unfold am_cont at hp
      simp only [hrt] at hp
      exact hp p e s m args below meth c0 H1 locs1 mls X (by rw [← ht]; exact hB) hS1 hz2 hL hcw2
    | boolean =>
      simp only [hrt] at hr
      refine va_calli hr hS (fun _ _ h => h) (fun _ h => h) (fun r u t H1 locs1 ht hvm hp hB h1 h2 hS1 => ?_)
      unfold am_cont at hp
      simp only [hrt] at hp
      exact hp p e s m args below meth c0 H1 locs1 mls X (by rw [← ht]; exact hB) hS1 hz2 hL hcw2
    | _ =>
      simp only [hrt] at hr
      refine va_calli hr hS (fun _ _ h => h) (fun _ h => h) (fun r u t H1 locs1 ht hvm hp hB h1 h2 hS1 => ?_)
      unfold am_cont at hp
      simp only [hrt] at hp
theorem am_cut {k : Nat} {b : Nat} (hb : (st.drop k).head? = some (.ref b)) : st = st.take k ++ .ref b :: st.drop (k + 1) ∧ (st.take (k + 1)).reverse = .ref b :: (st.take k).reverse := by
  have h1 : st.drop k = .ref b :: st.drop (k + 1) := by
    cases e : st.drop k with
    | nil => rw [e] at hb; cases hb
    | cons v r =>
      rw [e] at hb
      cases hb
      have : st.drop (k + 1) = r := by rw [← List.drop_drop, e]; rfl
      rw [this]
  have h2 : st = st.take k ++ .ref b :: st.drop (k + 1) := by rw [← h1, List.take_append_drop]
  refine ⟨h2, ?_⟩
  have hk : k < st.length := by
    have := congrArg List.length h1
    simp at this
    omega
  have hg : st[k]? = some (.ref b) := by rw [← List.head?_drop]; exact hb
  rw [List.take_succ, hg]
  simp
theorem am_nst {k : Nat} (hk : k ≤ st.length) : ((st.take k).reverse.map (am_v g)).length = k := by simp [hk]
theorem am_room {m : MethodId} {mls : Array Slot} {st0 rest : List Value} (h : (rest.map fun v => v.category).sum ≤ 8) : 2 * (F0 m pc mls st0).monitorRoom + ((rest.map (am_v g)).map fun v => v.category).sum ≤ 8 := by
  have := lv_room (m := m) (pc := pc) (ls := mls) (rest := st0) (st := rest.map (am_v g)) (by rw [am_map_cat]; exact h)
  exact this
theorem am_rmok (hRk : am_Rok d R y) (hm : am_MD y') : (am_rm d y').frames + 1 ≤ R.frames ∧ 8 + (am_mx y' + 11) + (am_rm d y').locals ≤ R.locals := by
  have h1 := hRk.1
  have h2 := hRk.2.1
  have h3 := hm.1.2.1
  have h4 : 8 + (am_mx y' + 11) + 48 * (d + 8) ≤ 48 * (d + 9) := by
    generalize am_mx y' = x at h3 ⊢
    clear h1 h2 hRk hm
    omega
  exact ⟨h1, Nat.le_trans h4 h2⟩
theorem sw_vir0 (hCD : am_CD g l d) (hRk : am_Rok d R y) {k : Nat} (hlk : am_LK (am_cn y) k 0 y') (hd : decode (am_bc y) pc = .ok (.invokevirtual k, 3)) (hb : ∃ b, (st.drop (am_np y')).head? = some (.ref b) ∧ am_ob n b (am_cn y')) (h : am_inv (am_big d) y y' (am_Wp g l y R Z) (am_np y' + 1) n c w pc ls st M) : am_Wp g l y R Z n c w pc ls st M := by
  obtain ⟨b, hb, hob⟩ := hb
  obtain ⟨⟨i1, i2, i3, i4, i5⟩, hcall⟩ := h
  obtain ⟨hm, k1, k2, k3, r, k4, k5⟩ := hlk
  obtain ⟨c1, c2⟩ := am_cut hb
  rw [c2] at hcall
  have hsum : ((Value.ref b :: (st.take (am_np y')).reverse).map fun v => v.category).sum ≤ am_mx y' := by
    rw [← c2, List.map_reverse, List.sum_reverse]; exact i3
  have hM := hCD _ _ _ _ _ hcall hm hsum
  intro p e s m args below meth c0 H locs mls X hR hS hz hL hcw
  have hts := X.2.2.2.2.2.1
  refine am_Wsz (fun hsz => ?_)
  have e0 : (Value.ref b :: (st.take (am_np y')).reverse).map (am_v g) = .ref (g_b g + b) :: (st.take (am_np y')).reverse.map (am_v g) := am_stk hob.1 hR.1
  rw [e0] at hM
  have hst : st.map (am_v g) = ((st.take (am_np y')).reverse.map (am_v g)).reverse ++ .ref (g_b g + b) :: (st.drop (am_np y' + 1)).map (am_v g) := by
    rw [← List.map_reverse, List.reverse_reverse, ← am_stk hob.1 hR.1, ← List.map_append, ← c1]
  have hG : GoodIn am_tb (wsV (am_cls (am_cn y)) k (am_nm y').cls (am_nm y') (am_ww y')) := by
    intro w hw
    rcases List.mem_append.mp hw with hw | hw
    · simp only [List.mem_cons, List.not_mem_nil, or_false] at hw
      rcases hw with rfl | rfl | rfl | rfl
      · exact am_gd k1
      · exact am_gd k2
      · exact am_gd k3
      · exact am_gd hm.2.2.1
    · exact am_ww_good hm w hw
  have hrv := va_recv X.2.2.2.2.2.2.2.2.1.1 hR.2.1 k4 (am_obat (g := g) (M := M) hob)
  rw [k5] at hrv
  exact am_after X hS hz hL hm.2.2.2.2.2.1 ⟨Nat.le_trans i4 hRk.2.2.1, Nat.le_trans i5 hRk.2.2.2⟩ (va_runV (C := (am_nm y').cls) (b := g_b g + b) (As := (st.take (am_np y')).reverse.map (am_v g)) (rest := (st.drop (am_np y' + 1)).map (am_v g)) ⟨X.1, X.2.1, X.2.2.2.1, X.2.2.2.2.1, hts⟩ hM (cwV (am_np y') hts hG rfl rfl rfl ⟨rfl, hm.2.2.2.1⟩ (am_rmok hRk hm)) ⟨am_Pre_blind, hrv, fun U hUH hW => ⟨rfl, am_Pre_ok X hR hS hz hsz U hUH hW⟩⟩ rfl (am_nst (by omega)) hL.1 hst (am_room i2) hd ⟨Nat.le_trans i4 hRk.2.2.1, Nat.le_trans i5 hRk.2.2.2⟩)
theorem am_cutS {k : Nat} : st.map (am_v g) = ((st.take k).reverse.map (am_v g)).reverse ++ (st.drop k).map (am_v g) := by
  rw [← List.map_reverse, List.reverse_reverse, ← List.map_append, List.take_append_drop]
theorem sw_sta1 (hCD : am_CD g l d) (hRk : am_Rok d R y) {k : Nat} (hlk : am_LK (am_cn y) k 1 y') (hd : decode (am_bc y) pc = .ok (.invokestatic k, 3)) (h : am_inv (am_big d) y y' (am_Wp g l y R Z) (am_np y') n c w pc ls st M) : am_Wp g l y R Z n c w pc ls st M := by
  obtain ⟨⟨i1, i2, i3, i4, i5⟩, hcall⟩ := h
  obtain ⟨hm, k1, k2⟩ := hlk
  have hM := hCD _ _ _ _ _ hcall hm (by rw [List.map_reverse, List.sum_reverse]; exact i3)
  intro p e s m args below meth c0 H locs mls X hR hS hz hL hcw
  have hts := X.2.2.2.2.2.1
  refine am_Wsz (fun hsz => ?_)
  have hG : GoodIn am_tb (va_wsS (am_cls (am_cn y)) k (am_nm y') (am_ww y')) := by
    intro w hw
    rcases List.mem_append.mp hw with hw | hw
    · simp only [List.mem_cons, List.not_mem_nil, or_false] at hw
      rcases hw with rfl | rfl | rfl
      · exact am_gd k1
      · exact am_gd k2
      · exact am_gd hm.2.2.1
    · exact am_ww_good hm w hw
  exact am_after X hS hz hL hm.2.2.2.2.2.1 ⟨Nat.le_trans i4 hRk.2.2.1, Nat.le_trans i5 hRk.2.2.2⟩ (va_runS (As := (st.take (am_np y')).reverse.map (am_v g)) (rest := (st.drop (am_np y')).map (am_v g)) ⟨X.1, X.2.1, X.2.2.2.1, X.2.2.2.2.1, hts⟩ hM (va_cwS (am_np y') hts hG rfl rfl rfl hm.2.2.2.1 (am_rmok hRk hm)) ⟨am_Pre_blind, fun U hUH hW => ⟨rfl, am_Pre_ok X hR hS hz hsz U hUH hW⟩⟩ rfl (am_nst i1) hL.1 am_cutS (am_room i2) hd ⟨Nat.le_trans i4 hRk.2.2.1, Nat.le_trans i5 hRk.2.2.2⟩)
theorem am_Nwat {w : Cond} {args : Array Value} {s : State} (hw : w ∈ am_tb) (h : w.before args s = true) : va_Nw w s := word_at (State.WarmedH.refl s) (good_of_word (am_tb_good hw)) h
theorem sw_sta3 (hCD : am_CD g l d) (hRk : am_Rok d R y) {k : Nat} (hlk : am_LK (am_cn y) k 3 y') (hd : decode (am_bc y) pc = .ok (.invokestatic k, 3)) (h : am_inv (am_big d) y y' (am_Wp g l y R Z) (am_np y') n c w pc ls st M) : am_Wp g l y R Z n c w pc ls st M := by
  obtain ⟨⟨i1, i2, i3, i4, i5⟩, hcall⟩ := h
  obtain ⟨hm, k1, k2⟩ := hlk
  have hM := hCD _ _ _ _ _ hcall hm (by rw [List.map_reverse, List.sum_reverse]; exact i3)
  intro p e s m args below meth c0 H locs mls X hR hS hz hL hcw
  have hts := X.2.2.2.2.2.1
  refine am_Wsz (fun hsz => ?_)
  exact am_after X hS hz hL hm.2.2.2.2.2.1 ⟨Nat.le_trans i4 hRk.2.2.1, Nat.le_trans i5 hRk.2.2.2⟩ (va_runSN (As := (st.take (am_np y')).reverse.map (am_v g)) (rest := (st.drop (am_np y')).map (am_v g)) ⟨X.1, X.2.1, X.2.2.2.1, X.2.2.2.2.1, hts⟩ hM ⟨va_cnB (am_np y') hts (am_ww_good hm) rfl rfl rfl (X.2.2.2.2.2.2.2.2.1.2.2.2.1.2.1 _ _ _ k1) (hts _ hm.2.2.1) hm.2.2.2.1 (am_rmok hRk hm), hts _ k2, trivial⟩ ⟨am_Pre_blind, fun U hUH hW => ⟨rfl, am_Pre_ok X hR hS hz hsz U hUH hW⟩⟩ rfl (am_nst i1) hL.1 am_cutS (am_room i2) hd ⟨Nat.le_trans i4 hRk.2.2.1, Nat.le_trans i5 hRk.2.2.2⟩)
theorem sw_spe (hCD : am_CD g l d) (hRk : am_Rok d R y) {k kd : Nat} (hkd : kd = 2 ∨ kd = 4) (hlk : am_LK (am_cn y) k kd y') (hd : decode (am_bc y) pc = .ok (.invokespecial k, 3)) (hb : ∃ b, (st.drop (am_np y')).head? = some (.ref b)) (h : am_inv (am_big d) y y' (am_Wp g l y R Z) (am_np y' + 1) n c w pc ls st M) : am_Wp g l y R Z n c w pc ls st M := by
  obtain ⟨b, hb⟩ := hb
  obtain ⟨⟨i1, i2, i3, i4, i5⟩, hcall⟩ := h
  obtain ⟨c1, c2⟩ := am_cut hb
  rw [c2] at hcall
  have hsum : ((Value.ref b :: (st.take (am_np y')).reverse).map fun v => v.category).sum ≤ am_mx y' := by
    rw [← c2, List.map_reverse, List.sum_reverse]; exact i3
  intro p e s m args below meth c0 H locs mls X hR hS hz hL hcw
  have hts := X.2.2.2.2.2.1
  refine am_Wsz (fun hsz => ?_)
  have hst : st.map (am_v g) = ((st.take (am_np y')).reverse.map (am_v g)).reverse ++ .ref (am_ad g b) :: (st.drop (am_np y' + 1)).map (am_v g) := by
    rw [← List.map_reverse, List.reverse_reverse]
    show _ = _ ++ (Value.ref b :: st.drop (am_np y' + 1)).map (am_v g)
    rw [← List.map_append, ← c1]
  rcases hkd with rfl | rfl
  · obtain ⟨hm, k1, k2, k3, k4⟩ := hlk
    have hM := hCD _ _ _ _ _ hcall hm hsum
    exact am_after X hS hz hL hm.2.2.2.2.2.1 ⟨Nat.le_trans i4 hRk.2.2.1, Nat.le_trans i5 hRk.2.2.2⟩ (va_runI (b := am_ad g b) (As := (st.take (am_np y')).reverse.map (am_v g)) (rest := (st.drop (am_np y' + 1)).map (am_v g)) ⟨X.1, X.2.1, X.2.2.2.1, X.2.2.2.2.1, hts⟩ hM (cwI (am_np y') hts (am_ww_good hm) (by unfold am_ww; rw [k4]) rfl rfl (hts _ hm.2.2.1) (hts _ k1) (hts _ k2) k3 hm.2.2.2.1 (am_rmok hRk hm)) ⟨am_Pre_blind, fun U hUH hW => ⟨rfl, am_Pre_ok X hR hS hz hsz U hUH hW⟩⟩ rfl (am_nst (by omega)) hL.1 hst (am_room i2) hd ⟨Nat.le_trans i4 hRk.2.2.1, Nat.le_trans i5 hRk.2.2.2⟩)
  · obtain ⟨hm, k1, k2, k3, k4⟩ := hlk
    have hM := hCD _ _ _ _ _ hcall hm hsum
    exact am_after X hS hz hL hm.2.2.2.2.2.1 ⟨Nat.le_trans i4 hRk.2.2.1, Nat.le_trans i5 hRk.2.2.2⟩ (va_runIN (b := am_ad g b) (As := (st.take (am_np y')).reverse.map (am_v g)) (rest := (st.drop (am_np y' + 1)).map (am_v g)) ⟨X.1, X.2.1, X.2.2.2.1, X.2.2.2.2.1, hts⟩ hM ⟨va_cnB (am_np y') hts (am_ww_good hm) (by unfold am_ww; rw [k4]) rfl rfl (X.2.2.2.2.2.2.2.2.1.2.2.2.1.2.1 _ _ _ k1) (hts _ hm.2.2.1) hm.2.2.2.1 (am_rmok hRk hm), k3, hts _ k2⟩ ⟨am_Pre_blind, fun U hUH hW => ⟨rfl, am_Pre_ok X hR hS hz hsz U hUH hW⟩⟩ rfl (am_nst (by omega)) hL.1 hst (am_room i2) hd ⟨Nat.le_trans i4 hRk.2.2.1, Nat.le_trans i5 hRk.2.2.2⟩)
end AMS5
