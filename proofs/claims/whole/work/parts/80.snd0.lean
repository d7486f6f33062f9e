/-! THE ABSTRACT MACHINE AND THE MACHINE: what a state of the one is in the other -/
abbrev am_g : Type := Nat × (Nat → ClassId) × (Nat → Nat → Nat) × (Nat → ClassId) × (Nat → Nat) × (Nat → Nat) × Nat × Nat × (Nat → Int32)
def g_b (g : am_g) : Nat := g.1
def g_D (g : am_g) : va_G := (g.2.1, g.2.2.1)
def g_A (g : am_g) : Nat → ClassId := g.2.2.2.1
def g_K (g : am_g) : Nat → Nat := g.2.2.2.2.1
def g_V (g : am_g) : Nat → Nat := g.2.2.2.2.2.1
def g_s (g : am_g) : Nat := g.2.2.2.2.2.2.1
def g_L (g : am_g) : Nat := g.2.2.2.2.2.2.2.1
def g_x (g : am_g) : Nat → Int32 := g.2.2.2.2.2.2.2.2
def g_F (g : am_g) : Nat → Prop := fun q => g_b g ≤ q
def am_ad (g : am_g) (a : Nat) : Nat := if a < am_S0 then g_b g + a else if a < am_SC then g_K g (a - am_S0) else g_s g
def am_v (g : am_g) (v : Value) : Value := match v with
  | .ref a => .ref (am_ad g a)
  | .int x => .int x
  | .long x => .long x
  | .float x => .float x
  | .double x => .double x
  | .null => .null
  | .retAddr x => .retAddr x
def am_ty (kd : Nat) : FieldType := match kd with
  | 1 => .int
  | 2 => .byte
  | 3 => .boolean
  | 4 => .long
  | 5 => .object RX0
  | 6 => .object RX8
  | _ => .object RX2
def am_tys (g : am_g) : List (ClassId × FieldType) := [(g_A g 1, .int), (g_A g 2, .byte), (g_A g 3, .boolean), (g_A g 4, .long), (g_A g 5, .object RX0), (g_A g 6, .object RX8), (g_A g 7, .object RX2)]
def am_fs (g : am_g) (M : am_M) (k ci : Nat) : List Value := (List.range (am_fk.getD ci []).length).map (fun j => am_v g (am_fv ((am_fk.getD ci []).getD j 0) M k j))
def am_E (g : am_g) (M : am_M) (k : Nat) : va_E := match (am_T k).1 with
  | 0 => .inr ((am_T k).2, am_fs g M k (am_T k).2)
  | 1 => .inl (g_A g 1, (am_T k).2, .inl (gI M k))
  | 2 => .inl (g_A g 2, (am_T k).2, .inl (gI M k))
  | 3 => .inl (g_A g 3, (am_T k).2, .inl (gI M k))
  | 4 => .inl (g_A g 4, (am_T k).2, .inr (.inl (gL M k)))
  | kd => .inl (g_A g kd, (am_T k).2, .inr (.inr (.inr (.inr (fun j => (gR M k j).map (am_ad g))))))
def am_Wd (g : am_g) (n : Nat) (M : am_M) : va_W := (List.range n).map (fun k => (g_b g + k, am_E g M k))
def am_z (n : Nat) (M : am_M) : Prop := ∀ k j, n ≤ k → k < am_S0 → gI M k j = 0 ∧ gL M k j = 0 ∧ gR M k j = none
def am_R (g : am_g) (n : Nat) (M : am_M) (H : Heap) : Prop := n ≤ am_NN ∧ va_P (g_D g) vwCl (am_Wd g n M) H ∧ am_z n M ∧ gI M am_SC 1000 = nI (g_L g) ∧ ∀ j, j < g_L g → gI M am_SC j = g_x g j
def am_lens : List Nat := [1, 6, 2, 5]
def am_byts : List (List Int32) := [[121], [119, 105, 120, 110, 98, 116], [107, 114], [112, 116, 99, 106, 104]]
def am_sidx : List (Nat × String) := [(26, "y"), (32, "wixnbt"), (258, "kr"), (277, "ptcjh")]
def am_SU (g : am_g) (U : State) (H : Heap) : Prop := vk_S 4 am_lens am_byts (g_K g) (g_V g) (g_F g) U H ∧ va_Z "java/lang/String" "COMPACT_STRINGS" "Z" (.int 1) (g_F g) U H ∧ va_Zq "jdk/internal/util/Preconditions" "SIOOBE_FORMATTER" "Ljava/util/function/BiFunction;" (g_F g) U H ∧ ∀ k, k < 4 → vk_R RX11 (am_sidx.getD k (0, "")).1 (am_sidx.getD k (0, "")).2 (g_K g k) U
/-- the links between nest mates -/
def am_nsm (U : State) : Prop := ∀ (a : String) (i : Nat) (x : MethodName), Cond.methodLinkNest a i x "UndoTrade" ∈ lw_tbl → va_Nw (.methodLinkNest a i x "UndoTrade") U
def am_aov (U : State) : Prop := va_AO RX0 U ∧ va_AO RX8 U ∧ va_AO RX2 U
def am_U (g : am_g) (U : State) (H : Heap) : Prop := va_K (g_D g) vwCl (am_tys g) U ∧ va_X (g_s g) (g_L g) (g_x g) U H ∧ g_s g < g_b g ∧ (g_L g ≤ 384 ∧ am_nsm U ∧ am_aov U) ∧ am_SU g U H
def am_cls (c : Nat) : String := [RX0, RX1, RX2, RX3, RX4, RX5, RX6, RX7, RX8, RX9, RX10, RX11, RL, RJ6, RJ9].getD c ""
def am_Cx (g : am_g) (y : am_Y) (p : Program) (s : State) (m : MethodId) (args : Array Value) (meth : Method) (c : Code) : Prop := p.tables.exec = Jvm.exec ∧ c.code = am_bc y ∧ meth.sig.returnType = am_rt y ∧ c.maxLocals = am_mx y ∧ s.vm.findClass (am_cls (am_cn y)) = some m.cls ∧ (∀ w ∈ am_tb, w.before args s = true) ∧ meth.locks = false ∧ (am_ini y = true → meth.name = "<init>") ∧ am_U g s s.heap ∧ g_b g ≤ s.heap.size
def am_Ls (g : am_g) (mls : Array Slot) (k : Nat) (ls : List (Option Value)) : Prop := mls.size = k ∧ lv_wf mls ∧ ∀ (i : Nat) (v : Value), ls[i]? = some (some v) → mls[i]? = some (Slot.val (am_v g v))
/-- while objects are still made, the heap has just those -/
def am_Sz (g : am_g) (s : State) (n c : Nat) : Prop := n < am_NN → s.heap.size + c ≤ g_b g + n
def am_Wp (g : am_g) (l : Launch) (y : am_Y) (R : Room) (Z : List Frame → Array Value → State → State → Prop) : am_P := fun n c w pc ls st M =>
  ∀ (p : Program) (e : Env) (s : State) (m : MethodId) (args : Array Value) (below : List Frame) (meth : Method) (c0 : Code) (H : Heap) (locs : List Loc) (mls : Array Slot),
    am_Cx g y p s m args meth c0 → am_R g n M H → va_S (g_F g) s.heap H locs → am_Sz g s n c → am_Ls g mls (am_mx y) ls → (c ≤ R.cells ∧ w ≤ R.slots) → W p l e R s m args below meth c0 H locs c w (Z below args s) (F0 m pc mls (st.map (am_v g)))
def am_ww (y : am_Y) : List Cond := Cond.code (am_nm y) (am_bc y) (am_mx y) (am_rt y) :: am_tb
def am_rm (d : Nat) (y : am_Y) : Room := { frames := d + 8, cells := (am_al y).2.1, slots := (am_al y).2.2, locals := 48 * (d + 8) }
def am_Pre (g : am_g) (n : Nat) (M : am_M) (U : State) : Prop := am_R g n M U.heap ∧ am_U g U U.heap ∧ g_b g ≤ U.heap.size ∧ am_Sz g U n 0
def am_Qc (g : am_g) (y : am_Y) (Q : am_Q) (n : Nat) : Array Value → State → Outcome → State → Prop := match am_rt y with
  | none => va_Qv (fun M : am_M => Q none M) (fun M t => am_R g n M t.heap) (g_F g)
  | some .long => va_Ql (fun r (M : am_M) => Q (some (.long r)) M) (fun M t => am_R g n M t.heap) (g_F g)
  | some _ => va_Qi (fun r (M : am_M) => Q (some (.int r)) M) (fun M t => am_R g n M t.heap) (g_F g)
/-- the length of an instruction -/
def am_il (i : Instr) (len : Nat) : Bool := match i with
  | .bipush _ | .iload _ | .istore _ | .lload _ | .lstore _ | .aload _ | .astore _ | .ldc _ | .newarray _ => len == 2
  | .sipush _ | .iinc _ _ | .ifCond _ _ | .if_icmp _ _ | .goto _ | .ldc_w _ | .ldc2_w _ | .getfield _ | .putfield _ | .new _ | .anewarray _ | .invokevirtual _ | .invokestatic _ | .invokespecial _ => len == 3
  | .tableswitch _ _ _ _ | .lookupswitch _ _ => true
  | _ => len == 1
def am_Gy (y : am_Y) : Prop := (∀ e ∈ am_cd y, decode (am_bc y) e.1 = .ok (e.2.1, e.2.2) ∧ am_il e.2.1 e.2.2 = true) ∧ am_mx y ≤ 29 ∧ (am_nm y).cls = am_cls (am_cn y)
def am_Rok (d : Nat) (R : Room) (y : am_Y) : Prop := d + 9 ≤ R.frames ∧ 48 * (d + 9) ≤ R.locals ∧ (am_al y).2.1 ≤ R.cells ∧ (am_al y).2.2 ≤ R.slots
section AMS0
variable {g : am_g} {n : Nat} {M M' : am_M}
theorem am_Wd_at {k : Nat} (h : k < n) : (am_Wd g n M)[k]? = some (g_b g + k, am_E g M k) := by
  simp [am_Wd, h]
theorem am_Wd_inv {k : Nat} {q : Nat × va_E} (h : (am_Wd g n M)[k]? = some q) : k < n ∧ q = (g_b g + k, am_E g M k) := by
  by_cases hk : k < n
  · rw [am_Wd_at hk] at h; exact ⟨hk, (Option.some.inj h).symm⟩
  · simp [am_Wd, hk] at h
theorem am_Wd_D : va_D (g_F g) (am_Wd g n M) := by
  refine ⟨fun i j p q hi hj e => ?_, fun k q hk => ?_⟩
  · obtain ⟨-, rfl⟩ := am_Wd_inv hi
    obtain ⟨-, rfl⟩ := am_Wd_inv hj
    have e : g_b g + i = g_b g + j := e
    omega
  · obtain ⟨-, rfl⟩ := am_Wd_inv hk
    exact Nat.le_add_right _ _
theorem am_Wd_set {k : Nat} {E : va_E} (hk : k < n) (hE : am_E g M' k = E) (ho : ∀ j, j ≠ k → am_E g M' j = am_E g M j) : (am_Wd g n M).set k (g_b g + k, E) = am_Wd g n M' := by
  apply List.ext_getElem?
  intro j
  rw [List.getElem?_set]
  by_cases hj : k = j
  · subst hj
    rw [if_pos rfl, if_pos (by simp [am_Wd, hk]), am_Wd_at hk, hE]
  · by_cases hn : j < n
    · rw [if_neg hj, am_Wd_at hn, am_Wd_at hn, ho j (fun e => hj e.symm)]
    · rw [if_neg hj]
      simp [am_Wd, hn]
theorem am_Wd_succ : am_Wd g (n + 1) M = am_Wd g n M ++ [(g_b g + n, am_E g M n)] := by
  simp [am_Wd, List.range_succ]
theorem am_fv_row {kd k j : Nat} (hI : ∀ i, gI M' k i = gI M k i) (hL : ∀ i, gL M' k i = gL M k i) (hR : ∀ i, gR M' k i = gR M k i) : am_fv kd M' k j = am_fv kd M k j := by
  unfold am_fv
  split <;> simp [hI, hL, hR]
theorem am_E_row {k : Nat} (hI : ∀ i, gI M' k i = gI M k i) (hL : ∀ i, gL M' k i = gL M k i) (hR : ∀ i, gR M' k i = gR M k i) : am_E g M' k = am_E g M k := by
  have e1 : gI M' k = gI M k := funext hI
  have e2 : gL M' k = gL M k := funext hL
  have e3 : am_fs g M' k (am_T k).2 = am_fs g M k (am_T k).2 := by
    unfold am_fs
    exact List.map_congr_left (fun j _ => by rw [am_fv_row hI hL hR])
  unfold am_E
  rw [e1, e2, e3]
  simp only [hR]
theorem am_E_sI {a k j : Nat} {v : Int32} (h : j ≠ a) : am_E g (sI M a k v) j = am_E g M j := am_E_row (fun i => by rw [gI_sI, if_neg (fun q => h q.1)]) (fun _ => rfl) (fun _ => rfl)
theorem am_E_sL {a k j : Nat} {v : Int64} (h : j ≠ a) : am_E g (sL M a k v) j = am_E g M j := am_E_row (fun _ => rfl) (fun i => by rw [gL_sL, if_neg (fun q => h q.1)]) (fun _ => rfl)
theorem am_E_sR {a k j : Nat} {v : Option Nat} (h : j ≠ a) : am_E g (sR M a k v) j = am_E g M j := am_E_row (fun _ => rfl) (fun _ => rfl) (fun i => by rw [gR_sR, if_neg (fun q => h q.1)])
theorem am_E_cp {a0 sp a dp q j : Nat} (h : j ≠ a) : am_E g (cpI M a0 sp a dp q) j = am_E g M j := am_E_row (fun i => by rw [gI_cpI, if_neg (fun q => h q.1)]) (fun _ => rfl) (fun _ => rfl)
theorem am_z_row {a : Nat} (hz : am_z n M) (ha : a < n) (hI : ∀ k i, k ≠ a → gI M' k i = gI M k i) (hL : ∀ k i, k ≠ a → gL M' k i = gL M k i) (hR : ∀ k i, k ≠ a → gR M' k i = gR M k i) : am_z n M' := by
  intro k j hk hs
  have hne : k ≠ a := by omega
  rw [hI k j hne, hL k j hne, hR k j hne]
  exact hz k j hk hs
/-- a store into the object a -/
theorem am_R_st {H H1 : Heap} {a : Nat} {E : va_E} (hR : am_R g n M H) (ha : a < n) (hE : am_E g M' a = E) (hP : va_P (g_D g) vwCl ((am_Wd g n M).set a (g_b g + a, E)) H1)
    (hI : ∀ k i, k ≠ a → gI M' k i = gI M k i) (hL : ∀ k i, k ≠ a → gL M' k i = gL M k i) (hRR : ∀ k i, k ≠ a → gR M' k i = gR M k i) : am_R g n M' H1 := by
  obtain ⟨h1, h2, h4, h5, h6⟩ := hR
  have hsc : am_SC ≠ a := by unfold am_SC; unfold am_NN at h1; omega
  refine ⟨h1, ?_, am_z_row h4 ha hI hL hRR, by rw [hI _ _ hsc]; exact h5, fun j hj => by rw [hI _ _ hsc]; exact h6 j hj⟩
  rw [am_Wd_set ha hE (fun j hj => am_E_row (fun i => hI j i hj) (fun i => hL j i hj) (fun i => hRR j i hj))] at hP
  exact hP
theorem am_ad_own {a : Nat} (h : a < n) (hn : n ≤ am_NN) : am_ad g a = g_b g + a := by
  unfold am_ad
  rw [if_pos]
  unfold am_S0
  unfold am_NN at hn
  omega
theorem am_fs_at {k ci j : Nat} (hj : j < (am_fk.getD ci []).length) : (am_fs g M k ci)[j]? = some (am_v g (am_fv ((am_fk.getD ci []).getD j 0) M k j)) := by
  simp only [am_fs, List.getElem?_map]
  rw [List.getElem?_range hj]
  rfl
theorem am_fs_len {k ci : Nat} : (am_fs g M k ci).length = (am_fk.getD ci []).length := by simp [am_fs]
theorem am_E_ob {a ci : Nat} (h : am_T a = (0, ci)) : am_E g M a = .inr (ci, am_fs g M a ci) := by
  unfold am_E; rw [h]; rfl
theorem am_E_1 {a : Nat} (h : (am_T a).1 = 1) : am_E g M a = .inl (g_A g 1, (am_T a).2, .inl (gI M a)) := by
  unfold am_E; rw [h]; rfl
theorem am_E_2 {a : Nat} (h : (am_T a).1 = 2) : am_E g M a = .inl (g_A g 2, (am_T a).2, .inl (gI M a)) := by
  unfold am_E; rw [h]; rfl
theorem am_E_3 {a : Nat} (h : (am_T a).1 = 3) : am_E g M a = .inl (g_A g 3, (am_T a).2, .inl (gI M a)) := by
  unfold am_E; rw [h]; rfl
theorem am_E_4 {a : Nat} (h : (am_T a).1 = 4) : am_E g M a = .inl (g_A g 4, (am_T a).2, .inr (.inl (gL M a))) := by
  unfold am_E; rw [h]; rfl
theorem am_E_5 {a : Nat} (h : (am_T a).1 = 5) : am_E g M a = .inl (g_A g 5, (am_T a).2, .inr (.inr (.inr (.inr (fun j => (gR M a j).map (am_ad g)))))) := by
  unfold am_E; rw [h]; rfl
theorem am_E_6 {a : Nat} (h : (am_T a).1 = 6) : am_E g M a = .inl (g_A g 6, (am_T a).2, .inr (.inr (.inr (.inr (fun j => (gR M a j).map (am_ad g)))))) := by
  unfold am_E; rw [h]; rfl
theorem am_E_7 {a : Nat} (h : (am_T a).1 = 7) : am_E g M a = .inl (g_A g 7, (am_T a).2, .inr (.inr (.inr (.inr (fun j => (gR M a j).map (am_ad g)))))) := by
  unfold am_E; rw [h]; rfl
theorem am_v_rv (r : Option Nat) : am_v g (am_rv r) = va_rf (r.map (am_ad g)) := by
  cases r <;> rfl
theorem am_v_cat (v : Value) : (am_v g v).category = v.category := by cases v <;> rfl
theorem am_map_cat (st : List Value) : ((st.map (am_v g)).map fun v => v.category) = st.map fun v => v.category := by
  induction st with
  | nil => rfl
  | cons a r ih => simp only [List.map_cons, am_v_cat, ih]
end AMS0
