section AMROWS
variable {d : Nat} {y y' : am_Y} {n0 : Nat} {Q : am_Q} {n c w pc len tg : Nat} {ls ls' : List (Option Value)} {st st' : List Value} {M : am_M} {i : Instr}
def kI (f : Int32 → am_M → Prop) : am_Q := fun r M => match r with
  | some (.int x) => f x M
  | _ => False
def kL (f : Int64 → am_M → Prop) : am_Q := fun r M => match r with
  | some (.long x) => f x M
  | _ => False
def kV (f : am_M → Prop) : am_Q := fun r M => match r with
  | none => f M
  | _ => False
theorem kI_i (f : Int32 → am_M → Prop) (x : Int32) (M : am_M) : kI f (some (.int x)) M = f x M := rfl
theorem kL_l (f : Int64 → am_M → Prop) (x : Int64) (M : am_M) : kL f (some (.long x)) M = f x M := rfl
theorem kV_v (f : am_M → Prop) (M : am_M) : kV f none M = f M := rfl
theorem am_rv_s (a : Nat) : am_rv (some a) = .ref a := rfl
theorem am_kl_i (x : Int32) : am_kl (some (.int x)) = some (.int x) := rfl
theorem am_kl_r (x : Nat) : am_kl (some (.ref x)) = some (.ref x) := rfl
theorem am_kl_n : am_kl none = none := rfl
theorem am_kl_l (x : Int64) : am_kl (some (.long x)) = none := rfl
theorem ok_i (h : am_lk (am_cd y) pc = some (i, len)) : ok d y n0 Q n c w pc ls st M = am_wpi (am_big d) y n0 Q (ok d y n0 Q) i len n c w pc ls st M := by
  rw [ok_eq]; simp only [am_wp, h]
theorem am_andT {a b : Prop} (h : a) : (a ∧ b) = b := propext (and_iff_right h)
theorem ok_push {v : Value} (h : am_lk (am_cd y) pc = some (i, len)) (hw : am_wpi (am_big d) y n0 Q (ok d y n0 Q) i len n c w pc ls st M = ok d y n0 Q n c w (pc + len) ls (v :: st) M) (ht : pc + len = tg) : ok d y n0 Q n c w pc ls st M = ok d y n0 Q n c w tg ls (v :: st) M := by
  rw [ok_i h, hw, ht]
/-- an instruction without conditions: what it becomes is read off -/
theorem ok_r {X : Prop} (h : am_lk (am_cd y) pc = some (i, len)) (hw : am_wpi (am_big d) y n0 Q (ok d y n0 Q) i len n c w pc ls st M = X) : ok d y n0 Q n c w pc ls st M = X := (ok_i h).trans hw
theorem ok_ifc {k : ClassFile.Cond} {off : Int} {x : Int32} (h : am_lk (am_cd y) pc = some (.ifCond k off, 3)) (tg : Nat) (ht : (pc : Int) + off = (tg : Int)) : ok d y n0 Q n c w pc ls (.int x :: st) M = ((am_cmp k x 0 → ok d y n0 Q n c w tg ls st M) ∧ (¬ am_cmp k x 0 → ok d y n0 Q n c w (pc + 3) ls st M)) := by
  rw [ok_i h]
  have e : am_tg pc off = tg := by unfold am_tg; rw [ht]; rfl
  show (_ = _ ∧ _ ∧ _) = _
  rw [e, am_andT ht]
theorem ok_ico {k : ClassFile.Cond} {off : Int} {x z : Int32} (h : am_lk (am_cd y) pc = some (.if_icmp k off, 3)) (tg : Nat) (ht : (pc : Int) + off = (tg : Int)) : ok d y n0 Q n c w pc ls (.int z :: .int x :: st) M = ((am_cmp k x z → ok d y n0 Q n c w tg ls st M) ∧ (¬ am_cmp k x z → ok d y n0 Q n c w (pc + 3) ls st M)) := by
  rw [ok_i h]
  have e : am_tg pc off = tg := by unfold am_tg; rw [ht]; rfl
  show (_ = _ ∧ _ ∧ _) = _
  rw [e, am_andT ht]
theorem ok_got {off : Int} (h : am_lk (am_cd y) pc = some (.goto off, 3)) (tg : Nat) (ht : (pc : Int) + off = (tg : Int)) : ok d y n0 Q n c w pc ls st M = ok d y n0 Q n c w tg ls st M := by
  rw [ok_i h]
  have e : am_tg pc off = tg := by unfold am_tg; rw [ht]; rfl
  show (_ = _ ∧ _) = _
  rw [e, am_andT ht]
theorem ok_ist {k : Nat} {x : Int32} (h : am_lk (am_cd y) pc = some (i, len)) (hi : i = .istore k ∨ ∃ q : Fin 4, i = .istore_n q ∧ q.val = k) (hk : k < am_mx y) (hl : am_st ls k (.int x) = ls') (ht : pc + len = tg) : ok d y n0 Q n c w pc ls (.int x :: st) M = ok d y n0 Q n c w tg ls' st M := by
  rw [ok_i h]
  rcases hi with rfl | ⟨q, rfl, rfl⟩ <;> (subst hl; subst ht; exact am_andT hk)
theorem ok_ast {k : Nat} {x : Nat} (h : am_lk (am_cd y) pc = some (i, len)) (hi : i = .astore k ∨ ∃ q : Fin 4, i = .astore_n q ∧ q.val = k) (hk : k < am_mx y) (hl : am_st ls k (.ref x) = ls') (ht : pc + len = tg) : ok d y n0 Q n c w pc ls (.ref x :: st) M = ok d y n0 Q n c w tg ls' st M := by
  rw [ok_i h]
  rcases hi with rfl | ⟨q, rfl, rfl⟩ <;> (subst hl; subst ht; exact am_andT hk)
theorem ok_lst {k : Nat} {x : Int64} (h : am_lk (am_cd y) pc = some (i, len)) (hi : i = .lstore k ∨ ∃ q : Fin 4, i = .lstore_n q ∧ q.val = k) (hk : k + 1 < am_mx y) (hl : am_st2 ls k (.long x) = ls') (ht : pc + len = tg) : ok d y n0 Q n c w pc ls (.long x :: st) M = ok d y n0 Q n c w tg ls' st M := by
  rw [ok_i h]
  rcases hi with rfl | ⟨q, rfl, rfl⟩ <;> (subst hl; subst ht; exact am_andT hk)
theorem ok_inc {k : Nat} {x : Int32} {j : Int} {v : Int32} (h : am_lk (am_cd y) pc = some (.iinc k j, 3)) (hx : ls.getD k none = some (.int x)) (hv : Int32.ofInt j = v) (hk : k < am_mx y) (hl : am_st ls k (.int (x + v)) = ls') (ht : pc + 3 = tg) : ok d y n0 Q n c w pc ls st M = ok d y n0 Q n c w tg ls' st M := by
  rw [ok_i h]
  subst hl; subst ht; subst hv
  show am_ldI ls k _ = _
  unfold am_ldI
  rw [hx]
  exact am_andT ⟨rfl, hk⟩
theorem ok_get {k : Nat} {q : Nat × Nat × Nat × Bool × Nat} {a : Nat} {v : Value} (h : am_lk (am_cd y) pc = some (.getfield k, 3)) (hf : am_fl (am_cn y) k = some q) (hv : am_fv q.2.2.1 M a q.2.1 = v) (ht : pc + 3 = tg) : ok d y n0 Q n c w pc ls (.ref a :: st) M = (am_ob n a q.1 ∧ ok d y n0 Q n c w tg ls (v :: st) M) := by
  rw [ok_i h]
  show am_opt _ _ = _
  rw [hf, ← hv, ← ht]
  rfl
theorem ok_put {k : Nat} {q : Nat × Nat × Nat × Bool × Nat} {X : Prop} (h : am_lk (am_cd y) pc = some (.putfield k, 3)) (hf : am_fl (am_cn y) k = some q) (hfin : q.2.2.2.1 = true → am_ini y = true ∧ am_cn y = q.1) (ht : pc + 3 = tg)
    (hX : am_put q.2.2.1 st M q.2.1 (fun a M' r => am_ob n a q.1 ∧ ok d y n0 Q n c w tg ls r M') = X) : ok d y n0 Q n c w pc ls st M = X := by
  rw [ok_i h]
  show am_opt _ _ = _
  rw [hf, ← hX, ← ht]
  have e : ∀ (a : Nat) (M' : am_M) (r : List Value), ((am_ob n a q.1 ∧ (q.2.2.2.1 = true → am_ini y = true ∧ am_cn y = q.1)) ∧ ok d y n0 Q n c w (pc + 3) ls r M') = (am_ob n a q.1 ∧ ok d y n0 Q n c w (pc + 3) ls r M') := fun a M' r => propext ⟨fun z => ⟨z.1.1, z.2⟩, fun z => ⟨⟨z.1, hfin⟩, z.2⟩⟩
  simp only [am_opt, e]
theorem ok_ldci {k : Nat} {v : Int32 × Nat} (h : am_lk (am_cd y) pc = some (i, len)) (hi : i = .ldc k ∨ i = .ldc_w k) (hf : am_ck (am_cn y) k = some v) (ht : pc + len = tg) : ok d y n0 Q n c w pc ls st M = ok d y n0 Q n c w tg ls (.int v.1 :: st) M := by
  rw [ok_i h]
  rcases hi with rfl | rfl <;> (show am_ldc (am_cn y) k (fun v => ok d y n0 Q n c w (pc + len) ls (v :: st) M) = _; unfold am_ldc; rw [hf, ht])
theorem ok_ldcs {k s : Nat} (h : am_lk (am_cd y) pc = some (i, len)) (hi : i = .ldc k ∨ i = .ldc_w k) (hf : am_ck (am_cn y) k = none) (hs : am_cs (am_cn y) k = some s) (ht : pc + len = tg) : ok d y n0 Q n c w pc ls st M = ok d y n0 Q n c w tg ls (.ref (am_S0 + s) :: st) M := by
  rw [ok_i h]
  rcases hi with rfl | rfl <;> (show am_ldc (am_cn y) k (fun v => ok d y n0 Q n c w (pc + len) ls (v :: st) M) = _; unfold am_ldc; rw [hf, hs, ht])
theorem ok_ldcl {k : Nat} {v : Int64 × Nat} (h : am_lk (am_cd y) pc = some (.ldc2_w k, 3)) (hf : am_cj (am_cn y) k = some v) (ht : pc + 3 = tg) : ok d y n0 Q n c w pc ls st M = ok d y n0 Q n c w tg ls (.long v.1 :: st) M := by
  rw [ok_i h]
  show am_opt _ _ = _
  rw [hf, ht]; rfl
theorem am_contI (hr : am_rt y' = some .int ∨ am_rt y' = some .boolean) (ha : am_al y' = (0, 0, 0)) {P : am_P} {rest : List Value} : am_cont y' P n c w pc ls rest = kI (fun x M' => P n c w pc ls (.int x :: rest) M') := by
  funext r M'
  unfold am_cont kI
  rw [ha]
  rcases hr with hr | hr <;> (rw [hr]; cases r with
    | none => rfl
    | some v => cases v <;> rfl)
theorem am_contL (hr : am_rt y' = some .long) (ha : am_al y' = (0, 0, 0)) {P : am_P} {rest : List Value} : am_cont y' P n c w pc ls rest = kL (fun x M' => P n c w pc ls (.long x :: rest) M') := by
  funext r M'
  unfold am_cont kL
  rw [ha, hr]
  cases r with
    | none => rfl
    | some v => cases v <;> rfl
theorem am_contV (hr : am_rt y' = none) {P : am_P} {rest : List Value} : am_cont y' P n c w pc ls rest = kV (fun M' => P (n + (am_al y').1) (c + (am_al y').2.1) (w + (am_al y').2.2) pc ls rest M') := by
  funext r M'
  unfold am_cont kV
  rw [hr]
  cases r with
    | none => rfl
    | some v => cases v <;> rfl
/-- the numbers of a call, decided -/
def am_nums (y y' : am_Y) (k c w : Nat) (st : List Value) : Prop := k ≤ st.length ∧ ((st.drop k).map fun v => v.category).sum ≤ 8 ∧ ((st.take k).map fun v => v.category).sum ≤ am_mx y' ∧ c + (am_al y').2.1 ≤ (am_al y).2.1 ∧ w + (am_al y').2.2 ≤ (am_al y).2.2
theorem ok_vir {k : Nat} {ps : List Nat} {b : Nat} {as rest : List Value} {K : am_Q} (h : am_lk (am_cd y) pc = some (.invokevirtual k, 3)) (hm : am_ml (am_cn y) k = some (0, y', ps)) (hb : (st.drop (am_np y')).head? = some (.ref b)) (hn : am_nums y y' (am_np y' + 1) c w st) (ha : (st.take (am_np y' + 1)).reverse = as) (hr : st.drop (am_np y' + 1) = rest) (hK : am_cont y' (ok d y n0 Q) n c w (pc + 3) ls rest = K) : ok d y n0 Q n c w pc ls st M = (am_ob n b (am_cn y') ∧ am_big d y' as n M K) := by
  rw [ok_i h]
  show am_vir _ _ _ _ _ _ _ _ _ _ _ = _
  rw [hm]
  show ((∃ b, (st.drop (am_np y')).head? = some (.ref b) ∧ am_ob n b (am_cn y')) ∧ am_inv (am_big d) y y' (ok d y n0 Q) (am_np y' + 1) n c w pc ls st M) = _
  subst ha; subst hr; subst hK
  refine propext ⟨fun ⟨⟨b', e1, e2⟩, e3⟩ => ?_, fun e => ⟨⟨b, hb, e.1⟩, hn, e.2⟩⟩
  rw [hb] at e1
  cases e1
  exact ⟨e2, e3.2⟩
theorem ok_sta {k kd : Nat} {ps : List Nat} {as rest : List Value} {K : am_Q} (h : am_lk (am_cd y) pc = some (.invokestatic k, 3)) (hm : am_ml (am_cn y) k = some (kd, y', ps)) (hkd : kd = 1 ∨ kd = 3 ∨ kd = 9) (hn : am_nums y y' (am_np y') c w st) (ha : (st.take (am_np y')).reverse = as) (hr : st.drop (am_np y') = rest) (hK : am_cont y' (ok d y n0 Q) n c w (pc + 3) ls rest = K) : ok d y n0 Q n c w pc ls st M = am_big d y' as n M K := by
  rw [ok_i h]
  show am_sta _ _ _ _ _ _ _ _ _ _ _ = _
  rw [hm]
  rcases hkd with rfl | rfl | rfl <;> (show am_inv (am_big d) y y' (ok d y n0 Q) (am_np y') n c w pc ls st M = _; subst ha; subst hr; subst hK; exact am_andT hn)
theorem ok_spe {k kd : Nat} {ps : List Nat} {b : Nat} {as rest : List Value} {K : am_Q} (h : am_lk (am_cd y) pc = some (.invokespecial k, 3)) (hm : am_ml (am_cn y) k = some (kd, y', ps)) (hkd : kd = 2 ∨ kd = 4) (hb : (st.drop (am_np y')).head? = some (.ref b)) (hn : am_nums y y' (am_np y' + 1) c w st) (ha : (st.take (am_np y' + 1)).reverse = as) (hr : st.drop (am_np y' + 1) = rest) (hK : am_cont y' (ok d y n0 Q) n c w (pc + 3) ls rest = K) : ok d y n0 Q n c w pc ls st M = am_big d y' as n M K := by
  rw [ok_i h]
  show am_spe _ _ _ _ _ _ _ _ _ _ _ = _
  rw [hm]
  rcases hkd with rfl | rfl <;> (show ((∃ b, (st.drop (am_np y')).head? = some (.ref b)) ∧ am_inv (am_big d) y y' (ok d y n0 Q) (am_np y' + 1) n c w pc ls st M) = _; subst ha; subst hr; subst hK; rw [am_andT (⟨b, hb⟩ : ∃ b, (st.drop (am_np y')).head? = some (.ref b))]; exact am_andT hn)
theorem ok_obj {k a : Nat} {ps : List Nat} (h : am_lk (am_cd y) pc = some (.invokespecial k, 3)) (hm : am_ml (am_cn y) k = some (5, y', ps)) (hn : (st.map fun v => v.category).sum ≤ 8) (ht : pc + 3 = tg) : ok d y n0 Q n c w pc ls (.ref a :: st) M = ok d y n0 Q n c w tg ls st M := by
  rw [ok_i h]
  show am_spe _ _ _ _ _ _ _ _ _ _ _ = _
  rw [hm, ← ht]
  exact am_andT hn
theorem ok_cpy {k : Nat} {ps : List Nat} {q dp sp : Int32} {a a0 : Nat} (h : am_lk (am_cd y) pc = some (.invokestatic k, 3)) (hm : am_ml (am_cn y) k = some (6, y', ps)) (hn : (st.map fun v => v.category).sum ≤ 8) (ht : pc + 3 = tg) : ok d y n0 Q n c w pc ls (.int q :: .int dp :: .ref a :: .int sp :: .ref a0 :: st) M = (am_cpok n a0 sp a dp q ∧ ok d y n0 Q n c w tg ls st (cpI M a0 sp.toNatClampNeg a dp.toNatClampNeg q.toNatClampNeg)) := by
  rw [ok_i h]
  show am_sta _ _ _ _ _ _ _ _ _ _ _ = _
  rw [hm, ← ht]
  show (_ ∧ _ ∧ _) = _
  rw [am_andT hn]
theorem ok_sle {k a : Nat} {ps : List Nat} (h : am_lk (am_cd y) pc = some (.invokevirtual k, 3)) (hm : am_ml (am_cn y) k = some (7, y', ps)) (hn : (st.map fun v => v.category).sum ≤ 8) (ht : pc + 3 = tg) : ok d y n0 Q n c w pc ls (.ref a :: st) M = ((am_S0 ≤ a ∧ a < am_S0 + 4) ∧ ok d y n0 Q n c w tg ls (.int (nI (am_str.getD (a - am_S0) []).length) :: st) M) := by
  rw [ok_i h]
  show am_vir _ _ _ _ _ _ _ _ _ _ _ = _
  rw [hm, ← ht]
  show (_ ∧ _ ∧ _) = _
  rw [am_andT hn]
theorem ok_sch {k a : Nat} {ps : List Nat} {j : Int32} (h : am_lk (am_cd y) pc = some (.invokevirtual k, 3)) (hm : am_ml (am_cn y) k = some (8, y', ps)) (hn : (st.map fun v => v.category).sum ≤ 8) (ht : pc + 3 = tg) : ok d y n0 Q n c w pc ls (.int j :: .ref a :: st) M = (am_sck a j ∧ ok d y n0 Q n c w tg ls (.int (nI ((am_str.getD (a - am_S0) []).getD j.toNatClampNeg 0)) :: st) M) := by
  rw [ok_i h]
  show am_vir _ _ _ _ _ _ _ _ _ _ _ = _
  rw [hm, ← ht]
  show (_ ∧ _ ∧ _) = _
  rw [am_andT hn]
theorem ok_mxi {k : Nat} {ps : List Nat} {x z : Int32} (h : am_lk (am_cd y) pc = some (.invokestatic k, 3)) (hm : am_ml (am_cn y) k = some (10, y', ps)) (hn : (st.map fun v => v.category).sum ≤ 8) (ht : pc + 3 = tg) : ok d y n0 Q n c w pc ls (.int z :: .int x :: st) M = ok d y n0 Q n c w tg ls (.int (if x < z then z else x) :: st) M := by
  rw [ok_i h]
  show am_sta _ _ _ _ _ _ _ _ _ _ _ = _
  rw [hm, ← ht]
  exact am_andT hn
theorem ok_mni {k : Nat} {ps : List Nat} {x z : Int32} (h : am_lk (am_cd y) pc = some (.invokestatic k, 3)) (hm : am_ml (am_cn y) k = some (11, y', ps)) (hn : (st.map fun v => v.category).sum ≤ 8) (ht : pc + 3 = tg) : ok d y n0 Q n c w pc ls (.int z :: .int x :: st) M = ok d y n0 Q n c w tg ls (.int (if z < x then z else x) :: st) M := by
  rw [ok_i h]
  show am_sta _ _ _ _ _ _ _ _ _ _ _ = _
  rw [hm, ← ht]
  exact am_andT hn
theorem ok_mxl {k : Nat} {ps : List Nat} {x z : Int64} (h : am_lk (am_cd y) pc = some (.invokestatic k, 3)) (hm : am_ml (am_cn y) k = some (13, y', ps)) (hn : (st.map fun v => v.category).sum ≤ 8) (ht : pc + 3 = tg) : ok d y n0 Q n c w pc ls (.long z :: .long x :: st) M = ok d y n0 Q n c w tg ls (.long (if z < x then x else z) :: st) M := by
  rw [ok_i h]
  show am_sta _ _ _ _ _ _ _ _ _ _ _ = _
  rw [hm, ← ht]
  exact am_andT hn
theorem ok_mnl {k : Nat} {ps : List Nat} {x z : Int64} (h : am_lk (am_cd y) pc = some (.invokestatic k, 3)) (hm : am_ml (am_cn y) k = some (14, y', ps)) (hn : (st.map fun v => v.category).sum ≤ 8) (ht : pc + 3 = tg) : ok d y n0 Q n c w pc ls (.long z :: .long x :: st) M = ok d y n0 Q n c w tg ls (.long (if z < x then z else x) :: st) M := by
  rw [ok_i h]
  show am_sta _ _ _ _ _ _ _ _ _ _ _ = _
  rw [hm, ← ht]
  exact am_andT hn
theorem ok_mab {k : Nat} {ps : List Nat} {x : Int32} (h : am_lk (am_cd y) pc = some (.invokestatic k, 3)) (hm : am_ml (am_cn y) k = some (12, y', ps)) (hn : (st.map fun v => v.category).sum ≤ 8) (ht : pc + 3 = tg) : ok d y n0 Q n c w pc ls (.int x :: st) M = ok d y n0 Q n c w tg ls (.int (if 0 ≤ x then x else 0 - x) :: st) M := by
  rw [ok_i h]
  show am_sta _ _ _ _ _ _ _ _ _ _ _ = _
  rw [hm, ← ht]
  exact am_andT hn
theorem ok_reI {v : Int32} (h : am_lk (am_cd y) pc = some (.ireturn, 1)) (hr : am_rt y = some .int) (ha : am_ret y n0 n c w) : ok d y n0 Q n c w pc ls [.int v] M = Q (some (.int v)) M := by
  rw [ok_i h]
  exact am_andT ⟨ha, Or.inl hr⟩
theorem ok_reZ {v : Int32} (h : am_lk (am_cd y) pc = some (.ireturn, 1)) (hr : am_rt y = some .boolean) (ha : am_ret y n0 n c w) : ok d y n0 Q n c w pc ls [.int v] M = ((v = 0 ∨ v = 1) ∧ Q (some (.int v)) M) := by
  rw [ok_i h]
  refine propext ⟨fun z => ⟨?_, z.2⟩, fun z => ⟨⟨ha, Or.inr ⟨hr, z.1⟩⟩, z.2⟩⟩
  rcases z.1.2 with e | e
  · rw [hr] at e; cases e
  · exact e.2
theorem ok_reL {v : Int64} (h : am_lk (am_cd y) pc = some (.lreturn, 1)) (hr : am_rt y = some .long) (ha : am_ret y n0 n c w) : ok d y n0 Q n c w pc ls [.long v] M = Q (some (.long v)) M := by
  rw [ok_i h]
  exact am_andT ⟨ha, hr⟩
theorem ok_reV (h : am_lk (am_cd y) pc = some (.return_, 1)) (hr : am_rt y = none) : ok d y n0 Q n c w pc ls [] M = (am_ret y n0 n c w ∧ Q none M) := by
  rw [ok_i h]
  exact propext ⟨fun z => ⟨z.1.1, z.2⟩, fun z => ⟨⟨z.1, hr⟩, z.2⟩⟩
theorem ok_tab {dflt lo hi : Int} {offs : Array Int} {x : Int32} {X : Prop} (h : am_lk (am_cd y) pc = some (.tableswitch dflt lo hi offs, len)) (tg : Nat) (hs : (hi - lo + 1).toNat = offs.size ∧ lo ≤ hi ∧ -1000 ≤ lo ∧ hi ≤ 1000) (ht : (pc : Int) + dflt = (tg : Int))
    (hX : am_tsw x pc (fun t => ok d y n0 Q n c w t ls st M) lo offs.toList = X) : ok d y n0 Q n c w pc ls (.int x :: st) M = (X ∧ (x.toInt < lo ∨ hi < x.toInt → ok d y n0 Q n c w tg ls st M)) := by
  rw [ok_i h]
  have e : am_tg pc dflt = tg := by unfold am_tg; rw [ht]; rfl
  show (_ ∧ _ ∧ _) = _
  rw [hX, e]
  exact am_andT ⟨hs.1, hs.2.1, hs.2.2.1, hs.2.2.2, ht⟩
theorem ok_loo {dflt : Int} {ps : Array (Int × Int)} {x : Int32} {X Z : Prop} (h : am_lk (am_cd y) pc = some (.lookupswitch dflt ps, len)) (tg : Nat) (hs : (ps.toList.zip (ps.toList.drop 1)).all (fun (a, next) => a.1 < next.1) = true) (ht : (pc : Int) + dflt = (tg : Int))
    (hX : am_lsw x pc (fun t => ok d y n0 Q n c w t ls st M) ps.toList = X) (hZ : am_lno x ps.toList = Z) : ok d y n0 Q n c w pc ls (.int x :: st) M = (X ∧ (Z → ok d y n0 Q n c w tg ls st M)) := by
  rw [ok_i h]
  have e : am_tg pc dflt = tg := by unfold am_tg; rw [ht]; rfl
  show (_ ∧ _ ∧ _) = _
  rw [hX, hZ, e]
  exact am_andT ⟨hs, ht⟩
theorem am_tsw_c {x : Int32} {F : Nat → Prop} {k k' : Int} {o : Int} {r : List Int} {v : Int32} {X : Prop} (tg : Nat) (ht : (pc : Int) + o = (tg : Int)) (hv : Int32.ofInt k = v) (hk : k + 1 = k') (hX : am_tsw x pc F k' r = X) : am_tsw x pc F k (o :: r) = ((x = v → F tg) ∧ X) := by
  have e : am_tg pc o = tg := by unfold am_tg; rw [ht]; rfl
  show ((_ ∧ _) ∧ _) = _
  rw [hk, hX, hv, e, am_andT ht]
theorem am_lsw_c {x : Int32} {F : Nat → Prop} {k o : Int} {r : List (Int × Int)} {v : Int32} {X : Prop} (tg : Nat) (ht : (pc : Int) + o = (tg : Int)) (hv : Int32.ofInt k = v) (hk : v.toInt = k) (hX : am_lsw x pc F r = X) : am_lsw x pc F ((k, o) :: r) = ((x = v → F tg) ∧ X) := by
  have e : am_tg pc o = tg := by unfold am_tg; rw [ht]; rfl
  show ((_ ∧ _ ∧ _) ∧ _) = _
  rw [hX, hv, e, am_andT ht]
  have hk' : v.toInt = (k, o).1 := hk
  rw [am_andT hk']
theorem ok_new {k : Nat} {q : Nat × Nat × Nat × Nat × Nat} {n' c' w' : Nat} (h : am_lk (am_cd y) pc = some (.new k, 3)) (hf : am_nl (am_cn y) k = some q) (ht : pc + 3 = tg) : ok d y n0 Q n c w pc ls st M = ((n < am_NN ∧ am_T n = (0, q.1) ∧ c + 1 ≤ (am_al y).2.1 ∧ w + q.2.1 ≤ (am_al y).2.2) ∧ ok d y n0 Q (n + 1) (c + 1) (w + q.2.1) tg ls (.ref n :: st) M) := by
  rw [ok_i h]
  show am_opt _ _ = _
  rw [hf, ← ht]; rfl
theorem ok_nar {t : ArrayType} {x : Int32} (h : am_lk (am_cd y) pc = some (.newarray t, 2)) (ht : pc + 2 = tg) : ok d y n0 Q n c w pc ls (.int x :: st) M = am_mk y (ok d y n0 Q) (am_atk t) x n c w tg ls st M := by
  rw [ok_i h, ← ht]; rfl
theorem ok_anr {k : Nat} {q : Nat × Nat × Nat × Nat × Nat} {x : Int32} (h : am_lk (am_cd y) pc = some (.anewarray k, 3)) (hf : am_nl (am_cn y) k = some q) (ht : pc + 3 = tg) : ok d y n0 Q n c w pc ls (.int x :: st) M = am_mk y (ok d y n0 Q) (am_anw q.1) x n c w tg ls st M := by
  rw [ok_i h, ← ht]
  show am_opt _ _ = _
  rw [hf]; rfl
end AMROWS
