section AMS6
variable {g : am_g} {l : Launch} {y y' : am_Y} {R : Room} {Z : List Frame → Array Value → State → State → Prop} {n0 n c w pc len d : Nat} {Q : am_Q} {ls : List (Option Value)} {st : List Value} {M : am_M}
theorem sw_obj (hML : am_MLOK) (hRk : am_Rok d R y) {k : Nat} (hlk : am_LK (am_cn y) k 5 y') (hd : decode (am_bc y) pc = .ok (.invokespecial k, 3)) (h : am_r1 st fun _ r => (r.map fun v => v.category).sum ≤ 8 ∧ am_Wp g l y R Z n c w (pc + 3) ls r M) : am_Wp g l y R Z n c w pc ls st M := by
  obtain ⟨a, r, rfl, h1, h⟩ := am_r1_inv h
  intro p e s m args below meth c0 H locs mls X hR hS hz hL hcw
  have hts := X.2.2.2.2.2.1
  have hr := am_room (g := g) (m := m) (pc := pc) (mls := mls) (st0 := (Value.ref a :: r).map (am_v g)) h1
  have h2 := hRk.1
  have h3 := hRk.2.1
  refine W.objInit (g := F0 m pc mls ((Value.ref a :: r).map (am_v g))) (rest := r.map (am_v g)) X.1 X.2.1 X.2.2.2.2.1 (hts _ hlk) (hts _ hML.2.1.1) (hts _ hML.2.1.2) rfl (by rw [X.2.2.2.1]; exact hL.1) rfl hd ?_ ?_ (h p e s m args below meth c0 H locs mls X hR hS hz hL hcw)
  · clear hr h3; omega
  · refine Nat.le_trans (Nat.add_le_add_right hr 12) (Nat.le_trans ?_ h3)
    clear hr h2 h3 hRk
    omega
theorem sw_cpy (hML : am_MLOK) (hRk : am_Rok d R y) {k : Nat} (hlk : am_LK (am_cn y) k 6 y') (hd : decode (am_bc y) pc = .ok (.invokestatic k, 3)) (h : am_cpy st fun a0 sp a dp k r => am_cpok n a0 sp a dp k ∧ (r.map fun v => v.category).sum ≤ 8 ∧ am_Wp g l y R Z n c w (pc + 3) ls r (cpI M a0 sp.toNatClampNeg a dp.toNatClampNeg k.toNatClampNeg)) : am_Wp g l y R Z n c w pc ls st M := by
  obtain ⟨a0, sp, a, dp, q, r, rfl, ⟨b1, b2, b3, b4, b5, b6, b7, b8, b9⟩, hr, h⟩ := am_cpy_inv h
  intro p e s m args below meth c0 H locs mls X hR hS hz hL hcw
  have hts := X.2.2.2.2.2.1
  have hU := X.2.2.2.2.2.2.2.2.1
  have h2 := hRk.1
  have h3 := hRk.2.1
  have est : (Value.int q :: .int dp :: .ref a :: .int sp :: .ref a0 :: r).map (am_v g) = .int q :: .int dp :: .ref (g_b g + a) :: .int sp :: .ref (g_b g + a0) :: r.map (am_v g) := by
    show Value.int q :: .int dp :: .ref (am_ad g a) :: .int sp :: .ref (am_ad g a0) :: r.map (am_v g) = _
    rw [am_ad_own b1 hR.1, am_ad_own b2 hR.1]
  rw [est]
  refine va_copyi (ty := .int) X.1 X.2.1 (by rw [X.2.2.2.1]; exact hL.1.symm) X.2.2.2.2.1 (hts _ hlk) (hts _ hML.2.2.1) (hts _ hML.2.2.2.1) (hts _ hML.2.2.2.2) hU.1 hR.2.1 am_Wd_D hS a0 a 0 0 (am_arat (kd := 1) b1 (am_E_1 b3)) (am_arat (kd := 1) b2 (am_E_1 b4)) rfl rfl rfl b5 b6 b7 b8 b9 (fun _ _ => rfl) ?_ ?_ hd (fun H1 locs1 hP _ hS1 => ?_)
  · clear h3; omega
  · rw [am_map_cat]
    refine Nat.le_trans (Nat.add_le_add_right hr _) (Nat.le_trans ?_ h3)
    have e : nativeFrameWords "java/lang/System" "arraycopy" 5 ≤ 100 := by decide
    clear h2 h3 hRk hr
    omega
  · refine h p e s m args below meth c0 H1 locs1 mls X (am_R_st hR b2 ?_ hP (fun k i hk => by rw [gI_cpI, if_neg (fun z => hk z.1)]) (fun _ _ _ => rfl) (fun _ _ _ => rfl)) hS1 hz hL hcw
    rw [am_E_1 b4]
    have e : gI (cpI M a0 sp.toNatClampNeg a dp.toNatClampNeg q.toNatClampNeg) a = va_cpy (gI M a0) (gI M a) sp.toNatClampNeg dp.toNatClampNeg q.toNatClampNeg := by
      funext j
      rw [gI_cpI]
      unfold va_cpy
      by_cases hj : dp.toNatClampNeg ≤ j ∧ j < dp.toNatClampNeg + q.toNatClampNeg
      · rw [if_pos ⟨rfl, hj⟩, if_pos hj]
      · rw [if_neg (fun z => hj z.2), if_neg hj]
    rw [e]
def am_MTOK : Prop := (Cond.static Lib.Math.max.name ∈ am_tb ∧ Cond.code Lib.Math.max.name Lib.Math.max.code 2 (some .int) ∈ am_tb) ∧ (Cond.static Lib.Math.min.name ∈ am_tb ∧ Cond.code Lib.Math.min.name Lib.Math.min.code 2 (some .int) ∈ am_tb) ∧ (Cond.static Lib.Math.abs.name ∈ am_tb ∧ Cond.code Lib.Math.abs.name Lib.Math.abs.code 1 (some .int) ∈ am_tb) ∧ (Cond.static Lib.MathLoose.max_long.x ∈ am_tb ∧ Cond.code Lib.MathLoose.max_long.x Lib.MathLoose.max_long.code 4 (some .long) ∈ am_tb) ∧ (Cond.static Lib.MathLoose.min_long.x ∈ am_tb ∧ Cond.code Lib.MathLoose.min_long.x Lib.MathLoose.min_long.code 4 (some .long) ∈ am_tb) ∧ Cond.initialized "java/lang/Math" ∈ am_tb
theorem sw_m10 (hMT : am_MTOK) (hRk : am_Rok d R y) {k : Nat} (hlk : am_LK (am_cn y) k 10 y') (hd : decode (am_bc y) pc = .ok (.invokestatic k, 3)) (h : am_i2 st fun x z r => (r.map fun v => v.category).sum ≤ 8 ∧ am_Wp g l y R Z n c w (pc + 3) ls (.int (if x < z then z else x) :: r) M) : am_Wp g l y R Z n c w pc ls st M := by
  obtain ⟨x, z, r, rfl, hr, h⟩ := am_i2_inv h
  intro p e s m args below meth c0 H locs mls X hR hS hz hL hcw
  have hts := X.2.2.2.2.2.1
  have h2 := hRk.1
  have h3 := hRk.2.1
  refine va_mmax X.1 X.2.1 (by rw [X.2.2.2.1]; exact hL.1.symm) X.2.2.2.2.1 (hts _ hlk) (hts _ hMT.1.1) (hts _ hMT.2.2.2.2.2) (hts _ hMT.1.2) ?_ ?_ hcw.1 hcw.2 hd (h p e s m args below meth c0 H locs mls X hR hS hz hL hcw)
  · clear h3; omega
  · rw [am_map_cat]
    refine Nat.le_trans (Nat.add_le_add_right hr _) (Nat.le_trans ?_ h3)
    clear h2 h3 hRk hr
    omega
theorem sw_m11 (hMT : am_MTOK) (hRk : am_Rok d R y) {k : Nat} (hlk : am_LK (am_cn y) k 11 y') (hd : decode (am_bc y) pc = .ok (.invokestatic k, 3)) (h : am_i2 st fun x z r => (r.map fun v => v.category).sum ≤ 8 ∧ am_Wp g l y R Z n c w (pc + 3) ls (.int (if z < x then z else x) :: r) M) : am_Wp g l y R Z n c w pc ls st M := by
  obtain ⟨x, z, r, rfl, hr, h⟩ := am_i2_inv h
  intro p e s m args below meth c0 H locs mls X hR hS hz hL hcw
  have hts := X.2.2.2.2.2.1
  have h2 := hRk.1
  have h3 := hRk.2.1
  refine va_mmin X.1 X.2.1 (by rw [X.2.2.2.1]; exact hL.1.symm) X.2.2.2.2.1 (hts _ hlk) (hts _ hMT.2.1.1) (hts _ hMT.2.2.2.2.2) (hts _ hMT.2.1.2) ?_ ?_ hcw.1 hcw.2 hd (h p e s m args below meth c0 H locs mls X hR hS hz hL hcw)
  · clear h3; omega
  · rw [am_map_cat]
    refine Nat.le_trans (Nat.add_le_add_right hr _) (Nat.le_trans ?_ h3)
    clear h2 h3 hRk hr
    omega
theorem sw_m12 (hMT : am_MTOK) (hRk : am_Rok d R y) {k : Nat} (hlk : am_LK (am_cn y) k 12 y') (hd : decode (am_bc y) pc = .ok (.invokestatic k, 3)) (h : am_i1 st fun x r => (r.map fun v => v.category).sum ≤ 8 ∧ am_Wp g l y R Z n c w (pc + 3) ls (.int (if 0 ≤ x then x else 0 - x) :: r) M) : am_Wp g l y R Z n c w pc ls st M := by
  obtain ⟨x, r, rfl, hr, h⟩ := am_i1_inv h
  intro p e s m args below meth c0 H locs mls X hR hS hz hL hcw
  have hts := X.2.2.2.2.2.1
  have h2 := hRk.1
  have h3 := hRk.2.1
  refine va_mabs X.1 X.2.1 (by rw [X.2.2.2.1]; exact hL.1.symm) X.2.2.2.2.1 (hts _ hlk) (hts _ hMT.2.2.1.1) (hts _ hMT.2.2.2.2.2) (hts _ hMT.2.2.1.2) ?_ ?_ hcw.1 hcw.2 hd (h p e s m args below meth c0 H locs mls X hR hS hz hL hcw)
  · clear h3; omega
  · rw [am_map_cat]
    refine Nat.le_trans (Nat.add_le_add_right hr _) (Nat.le_trans ?_ h3)
    clear h2 h3 hRk hr
    omega
theorem sw_m13 (hMT : am_MTOK) (hRk : am_Rok d R y) {k : Nat} (hlk : am_LK (am_cn y) k 13 y') (hd : decode (am_bc y) pc = .ok (.invokestatic k, 3)) (h : am_l2 st fun x z r => (r.map fun v => v.category).sum ≤ 8 ∧ am_Wp g l y R Z n c w (pc + 3) ls (.long (if z < x then x else z) :: r) M) : am_Wp g l y R Z n c w pc ls st M := by
  obtain ⟨x, z, r, rfl, hr, h⟩ := am_l2_inv h
  intro p e s m args below meth c0 H locs mls X hR hS hz hL hcw
  have hts := X.2.2.2.2.2.1
  have h2 := hRk.1
  have h3 := hRk.2.1
  refine va_mmax_long X.1 X.2.1 (by rw [X.2.2.2.1]; exact hL.1.symm) X.2.2.2.2.1 (hts _ hlk) (hts _ hMT.2.2.2.1.1) (hts _ hMT.2.2.2.2.2) (hts _ hMT.2.2.2.1.2) ?_ ?_ hcw.1 hcw.2 hd (h p e s m args below meth c0 H locs mls X hR hS hz hL hcw)
  · clear h3; omega
  · rw [am_map_cat]
    refine Nat.le_trans (Nat.add_le_add_right hr _) (Nat.le_trans ?_ h3)
    clear h2 h3 hRk hr
    omega
theorem sw_m14 (hMT : am_MTOK) (hRk : am_Rok d R y) {k : Nat} (hlk : am_LK (am_cn y) k 14 y') (hd : decode (am_bc y) pc = .ok (.invokestatic k, 3)) (h : am_l2 st fun x z r => (r.map fun v => v.category).sum ≤ 8 ∧ am_Wp g l y R Z n c w (pc + 3) ls (.long (if z < x then z else x) :: r) M) : am_Wp g l y R Z n c w pc ls st M := by
  obtain ⟨x, z, r, rfl, hr, h⟩ := am_l2_inv h
  intro p e s m args below meth c0 H locs mls X hR hS hz hL hcw
  have hts := X.2.2.2.2.2.1
  have h2 := hRk.1
  have h3 := hRk.2.1
  refine va_mmin_long X.1 X.2.1 (by rw [X.2.2.2.1]; exact hL.1.symm) X.2.2.2.2.1 (hts _ hlk) (hts _ hMT.2.2.2.2.1.1) (hts _ hMT.2.2.2.2.2) (hts _ hMT.2.2.2.2.1.2) ?_ ?_ hcw.1 hcw.2 hd (h p e s m args below meth c0 H locs mls X hR hS hz hL hcw)
  · clear h3; omega
  · rw [am_map_cat]
    refine Nat.le_trans (Nat.add_le_add_right hr _) (Nat.le_trans ?_ h3)
    clear h2 h3 hRk hr
    omega
/-- the steps that stand apart: a text's length, its signs, the law's own apprentice; and the ends -/
def am_S7OK (g : am_g) (l : Launch) (y : am_Y) (R : Room) (Z : List Frame → Array Value → State → State → Prop) : Prop := ∀ (k : Nat) (y' : am_Y) (ps : List Nat) (n c w pc : Nat) (ls : List (Option Value)) (st : List Value) (M : am_M), am_ml (am_cn y) k = some (7, y', ps) → decode (am_bc y) pc = .ok (.invokevirtual k, 3) →
  (am_r1 st fun a r => (am_S0 ≤ a ∧ a < am_S0 + 4) ∧ (r.map fun v => v.category).sum ≤ 8 ∧ am_Wp g l y R Z n c w (pc + 3) ls (.int (nI (am_str.getD (a - am_S0) []).length) :: r) M) → am_Wp g l y R Z n c w pc ls st M
def am_S8OK (g : am_g) (l : Launch) (y : am_Y) (R : Room) (Z : List Frame → Array Value → State → State → Prop) : Prop := ∀ (k : Nat) (y' : am_Y) (ps : List Nat) (n c w pc : Nat) (ls : List (Option Value)) (st : List Value) (M : am_M), am_ml (am_cn y) k = some (8, y', ps) → decode (am_bc y) pc = .ok (.invokevirtual k, 3) →
  (am_ri st fun a i r => am_sck a i ∧ (r.map fun v => v.category).sum ≤ 8 ∧ am_Wp g l y R Z n c w (pc + 3) ls (.int (nI ((am_str.getD (a - am_S0) []).getD i.toNatClampNeg 0)) :: r) M) → am_Wp g l y R Z n c w pc ls st M
def am_S9OK (g : am_g) (l : Launch) (d : Nat) (y : am_Y) (R : Room) (Z : List Frame → Array Value → State → State → Prop) : Prop := ∀ (k : Nat) (y' : am_Y) (ps : List Nat) (n c w pc : Nat) (ls : List (Option Value)) (st : List Value) (M : am_M), am_ml (am_cn y) k = some (9, y', ps) → decode (am_bc y) pc = .ok (.invokestatic k, 3) →
  am_inv (am_big d) y y' (am_Wp g l y R Z) (am_np y') n c w pc ls st M → am_Wp g l y R Z n c w pc ls st M
def am_REOK (g : am_g) (l : Launch) (y : am_Y) (n0 : Nat) (Q : am_Q) (R : Room) (Z : List Frame → Array Value → State → State → Prop) : Prop := ∀ (n c w pc : Nat) (ls : List (Option Value)) (M : am_M), am_ret y n0 n c w →
  (∀ v : Int32, (am_rt y = some .int ∨ (am_rt y = some .boolean ∧ (v = 0 ∨ v = 1))) → Q (some (.int v)) M → decode (am_bc y) pc = .ok (.ireturn, 1) → am_Wp g l y R Z n c w pc ls [.int v] M) ∧
  (∀ v : Int64, am_rt y = some .long → Q (some (.long v)) M → decode (am_bc y) pc = .ok (.lreturn, 1) → am_Wp g l y R Z n c w pc ls [.long v] M) ∧
  (am_rt y = none → Q none M → decode (am_bc y) pc = .ok (.return_, 1) → am_Wp g l y R Z n c w pc ls [] M)
def am_TOK : Prop := am_FLOK ∧ am_CLOK ∧ am_CKOK ∧ am_NLOK ∧ am_AROK ∧ am_MLOK ∧ am_MTOK
set_option maxHeartbeats 4000000 in
theorem am_step (hT : am_TOK) (hCD : am_CD g l d) (hRk : am_Rok d R y) (h7 : am_S7OK g l y R Z) (h8 : am_S8OK g l y R Z) (h9 : am_S9OK g l d y R Z) (hE : am_REOK g l y n0 Q R Z) {i : Instr} (hd : decode (am_bc y) pc = .ok (i, len)) (hl : am_il i len = true) (h : am_wpi (am_big d) y n0 Q (am_Wp g l y R Z) i len n c w pc ls st M) : am_Wp g l y R Z n c w pc ls st M := by
  obtain ⟨hFL, hCL, hCK, hNL, hAR, hML, hMT⟩ := hT
  cases i with
  | iconst => exact sw_iconst hd hl h
  | bipush => exact sw_bipush hd hl h
  | sipush => exact sw_sipush hd hl h
  | lconst => exact sw_lconst hd hl h
  | iload => exact sw_iload hd hl h
  | iload_n => exact sw_iload_n hd hl h
  | lload => exact sw_lload hd hl h
  | lload_n => exact sw_lload_n hd hl h
  | aload => exact sw_aload hd hl h
  | aload_n => exact sw_aload_n hd hl h
  | istore => exact sw_istore hd hl h
  | istore_n => exact sw_istore_n hd hl h
  | lstore => exact sw_lstore hd hl h
  | lstore_n => exact sw_lstore_n hd hl h
  | astore => exact sw_astore hd hl h
  | astore_n => exact sw_astore_n hd hl h
  | iinc => exact sw_iinc hd hl h
  | iadd => exact sw_iadd hd hl h
  | isub => exact sw_isub hd hl h
  | imul => exact sw_imul hd hl h
  | iand => exact sw_iand hd hl h
  | ior => exact sw_ior hd hl h
  | ixor => exact sw_ixor hd hl h
  | idiv => exact sw_idiv hd hl h
  | irem => exact sw_irem hd hl h
  | ishl => exact sw_ishl hd hl h
  | ishr => exact sw_ishr hd hl h
  | iushr => exact sw_iushr hd hl h
  | ineg => exact sw_ineg hd hl h
  | ladd => exact sw_ladd hd hl h
  | lsub => exact sw_lsub hd hl h
  | lmul => exact sw_lmul hd hl h
  | land => exact sw_land hd hl h
  | lor => exact sw_lor hd hl h
  | ldiv => exact sw_ldiv hd hl h
  | lrem => exact sw_lrem hd hl h
  | lcmp => exact sw_lcmp hd hl h
  | lshl => exact sw_lshl hd hl h
  | lushr => exact sw_lushr hd hl h
  | i2l => exact sw_i2l hd hl h
  | l2i => exact sw_l2i hd hl h
  | i2b => exact sw_i2b hd hl h
  | dup => exact sw_dup hd hl h
  | dup2 => exact sw_dup2 hd hl h
  | pop => exact sw_pop hd hl h
  | ifCond => exact sw_ifCond hd hl h
  | if_icmp => exact sw_if_icmp hd hl h
  | goto => exact sw_goto hd hl h
  | tableswitch => exact sw_tableswitch hd hl h
  | lookupswitch => exact sw_lookupswitch hd hl h
  | ldc => exact sw_ldc hCK hd hl h
  | ldc_w => exact sw_ldc_w hCK hd hl h
  | ldc2_w => exact sw_ldc2_w hCK hd hl h
  | getfield => exact sw_getfield hFL hCL hd hl h
  | putfield => exact sw_putfield hFL hCL hd hl h
  | iaload => exact sw_iaload hd hl h
  | baload => exact sw_baload hd hl h
  | laload => exact sw_laload hd hl h
  | aaload => exact sw_aaload hd hl h
  | iastore => exact sw_iastore hd hl h
  | bastore => exact sw_bastore hd hl h
  | lastore => exact sw_lastore hd hl h
  | aastore => exact sw_aastore hd hl h
  | arraylength => exact sw_arraylength hd hl h
  | new => exact sw_new hCL hNL hRk hd hl h
  | newarray => exact sw_newarray hAR hRk hd hl h
  | anewarray => exact sw_anewarray hAR hNL hRk hd hl h
  | invokevirtual k =>
    have hl : (len == 3) = true := hl
    have el : len = 3 := eq_of_beq hl
    subst el
    have h : am_vir (am_big d) y (am_Wp g l y R Z) (am_ml (am_cn y) k) n c w pc ls st M := h
    unfold am_vir at h
    split at h
    · rename_i y' ps hm
      exact sw_vir0 hCD hRk (hML.1 _ _ _ _ _ hm) hd h.1 h.2
    · rename_i y' ps hm
      exact h7 _ _ _ _ _ _ _ _ _ _ hm hd h
    · rename_i y' ps hm
      exact h8 _ _ _ _ _ _ _ _ _ _ hm hd h
    · exact h.elim
  | invokestatic k =>
    have hl : (len == 3) = true := hl
    have el : len = 3 := eq_of_beq hl
    subst el
    have h : am_sta (am_big d) y (am_Wp g l y R Z) (am_ml (am_cn y) k) n c w pc ls st M := h
    unfold am_sta at h
    split at h
    · rename_i y' ps hm
      exact sw_sta1 hCD hRk (hML.1 _ _ _ _ _ hm) hd h
    · rename_i y' ps hm
      exact sw_sta3 hCD hRk (hML.1 _ _ _ _ _ hm) hd h
    · rename_i y' ps hm
      exact h9 _ _ _ _ _ _ _ _ _ _ hm hd h
    · rename_i y' ps hm
      exact sw_cpy hML hRk (hML.1 _ _ _ _ _ hm) hd h
    · rename_i y' ps hm
      exact sw_m10 hMT hRk (hML.1 _ _ _ _ _ hm) hd h
    · rename_i y' ps hm
      exact sw_m11 hMT hRk (hML.1 _ _ _ _ _ hm) hd h
    · rename_i y' ps hm
      exact sw_m12 hMT hRk (hML.1 _ _ _ _ _ hm) hd h
    · rename_i y' ps hm
      exact sw_m13 hMT hRk (hML.1 _ _ _ _ _ hm) hd h
    · rename_i y' ps hm
      exact sw_m14 hMT hRk (hML.1 _ _ _ _ _ hm) hd h
    · exact h.elim
  | invokespecial k =>
    have hl : (len == 3) = true := hl
    have el : len = 3 := eq_of_beq hl
    subst el
    have h : am_spe (am_big d) y (am_Wp g l y R Z) (am_ml (am_cn y) k) n c w pc ls st M := h
    unfold am_spe at h
    split at h
    · rename_i y' ps hm
      exact sw_spe hCD hRk (Or.inl rfl) (hML.1 _ _ _ _ _ hm) hd h.1 h.2
    · rename_i y' ps hm
      exact sw_spe hCD hRk (Or.inr rfl) (hML.1 _ _ _ _ _ hm) hd h.1 h.2
    · rename_i y' ps hm
      exact sw_obj hML hRk (hML.1 _ _ _ _ _ hm) hd h
    · exact h.elim
  | ireturn =>
    have hl : (len == 1) = true := hl
    have el : len = 1 := eq_of_beq hl
    subst el
    have h : am_ire y Q n0 n c w st M := h
    unfold am_ire at h
    split at h
    · exact (hE n c w pc ls M h.1.1).1 _ h.1.2 h.2 hd
    · exact h.elim
  | lreturn =>
    have hl : (len == 1) = true := hl
    have el : len = 1 := eq_of_beq hl
    subst el
    have h : am_lre y Q n0 n c w st M := h
    unfold am_lre at h
    split at h
    · exact (hE n c w pc ls M h.1.1).2.1 _ h.1.2 h.2 hd
    · exact h.elim
  | return_ =>
    have hl : (len == 1) = true := hl
    have el : len = 1 := eq_of_beq hl
    subst el
    have h : am_vre y Q n0 n c w st M := h
    unfold am_vre at h
    split at h
    · exact (hE n c w pc ls M h.1.1).2.2 h.1.2 h.2 hd
    · exact h.elim
  | _ => exact False.elim h
/-- a run of the abstract machine is a run of the machine -/
theorem am_runs (hT : am_TOK) (hG : am_Gy y) (hCD : am_CD g l d) (hRk : am_Rok d R y) (h7 : am_S7OK g l y R Z) (h8 : am_S8OK g l y R Z) (h9 : am_S9OK g l d y R Z) (hE : am_REOK g l y n0 Q R Z) (h : am_ok (am_big d) y n0 Q n c w pc ls st M) : am_Wp g l y R Z n c w pc ls st M := by
  refine h (am_Wp g l y R Z) (fun n c w pc ls st M hw => ?_)
  unfold am_wp at hw
  split at hw
  · rename_i i len hk
    obtain ⟨h1, h2⟩ := hG.1 _ (am_lk_mem hk)
    exact am_step hT hCD hRk h7 h8 h9 hE h1 h2 hw
  · exact hw.elim
theorem am_ent_at (k : Nat) : ∀ (as : List Value) (i : Nat) (v : Value), (am_ent k as)[i]? = some (some v) → (lg_sl (as.map (am_v g)) ++ List.replicate (k - (lg_sl (as.map (am_v g))).length) Slot.unset)[i]? = some (Slot.val (am_v g v)) := by
  intro as i v h
  unfold am_ent at h
  have key : ∀ (as : List Value) (i : Nat) (v : Value), (as.flatMap fun v => if v.category = 2 then [some v, none] else [some v])[i]? = some (some v) → (lg_sl (as.map (am_v g)))[i]? = some (Slot.val (am_v g v)) := by
    intro as
    induction as with
    | nil => intro i v h; simp at h
    | cons a r ih =>
      intro i v h
      have e : lg_sl ((a :: r).map (am_v g)) = (if a.category = 2 then [Slot.val (am_v g a), Slot.second] else [Slot.val (am_v g a)]) ++ lg_sl (r.map (am_v g)) := by
        simp [lg_sl, am_v_cat]
      rw [e]
      rw [List.flatMap_cons] at h
      by_cases hc : a.category = 2
      · rw [if_pos hc] at h ⊢
        match i, h with
        | 0, h => simp at h; subst h; rfl
        | 1, h => simp at h
        | i + 2, h =>
          have h : (r.flatMap fun v => if v.category = 2 then [some v, none] else [some v])[i]? = some (some v) := h
          exact ih i v h
      · rw [if_neg hc] at h ⊢
        match i, h with
        | 0, h => simp at h; subst h; rfl
        | i + 1, h =>
          have h : (r.flatMap fun v => if v.category = 2 then [some v, none] else [some v])[i]? = some (some v) := h
          exact ih i v h
  by_cases hi : i < (as.flatMap fun v => if v.category = 2 then [some v, none] else [some v]).length
  · rw [List.getElem?_append_left hi] at h
    have h2 := key as i v h
    rw [List.getElem?_append_left (List.getElem?_eq_some_iff.mp h2).1]
    exact h2
  · rw [List.getElem?_append_right (by omega)] at h
    rw [List.getElem?_replicate] at h
    split at h <;> cases h
theorem am_sl_len (as : List Value) : (lg_sl (as.map (am_v g))).length = (as.map fun v => v.category).sum := by
  induction as with
  | nil => rfl
  | cons a r ih =>
    have e : lg_sl ((a :: r).map (am_v g)) = (if a.category = 2 then [Slot.val (am_v g a), Slot.second] else [Slot.val (am_v g a)]) ++ lg_sl (r.map (am_v g)) := by
      simp [lg_sl, am_v_cat]
    rw [e, List.length_append, ih]
    rcases lv_cat a with h | h
    · rw [if_neg (by omega)]; simp [h]
    · rw [if_pos h]; simp [h]
end AMS6
