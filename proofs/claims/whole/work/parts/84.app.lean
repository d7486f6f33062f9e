/-! the class's apprentice: it answers, or an exception goes out -/
def ax_at : List Cond := (xt_W RX10 161).filter vx_no
/-- the words that aren't in am_tb -/
def ax_nb : List Cond := [.castable nse nse, .declares (Bundle.initS xt_R), .declares (Bundle.initS xt_E), .declares (Bundle.initS Bundle.tN)]
def ax_T (g : am_g) (sa : Nat) (U : State) (H : Heap) : Prop := vx_Zq Bundle.tN "UNASSIGNED_STACK" Bundle.steD (g_F g) U H ∧ vx_Zq Bundle.tN "SUPPRESSED_SENTINEL" Bundle.listD (g_F g) U H ∧ vk_R RX10 159 "no such apprentice or question" sa U ∧ ∀ w ∈ ax_nb, va_Nw w U
theorem ax_g : ax_at.all (fun w => goodWord w || ax_nb.any (fun v => decide (v = w))) = true := by decide +kernel
theorem ax_o : (Cond.classLink RX10 157 nse :: Cond.initialized nse :: ax_at).all vx_ot = true := by decide +kernel
theorem ax_m : ax_at.all (fun w => ax_nb.any (fun v => decide (v = w)) || lw_tbl.any (fun v => decide (v = w))) = true := by decide +kernel
theorem ax_nbt : ax_nb.all (fun w => w.onTables && lw_tbl.any (fun v => decide (v = w))) = true := by decide +kernel
theorem ax_w {args : Array Value} {s : State} (hts : ∀ w ∈ am_tb, w.before args s = true) (hc : ∀ w ∈ ax_nb, va_Nw w s) : ∀ w ∈ ax_at, w.before args s = true := by
  intro w hw
  by_cases e : ax_nb.any (fun v => decide (v = w)) = true
  · obtain ⟨v, hv, hvw⟩ := List.any_eq_true.mp e
    rw [of_decide_eq_true hvw] at hv
    have h1 := List.all_eq_true.mp ax_nbt w hv
    rw [Bool.and_eq_true] at h1
    exact va_Nw.use (A := args) h1.1 (hc w hv)
  · have e : ax_nb.any (fun v => decide (v = w)) = false := by
      cases h : ax_nb.any (fun v => decide (v = w))
      · rfl
      · exact absurd h e
    have h1 := List.all_eq_true.mp ax_g w hw
    have h2 := List.all_eq_true.mp ax_m w hw
    simp only [e, Bool.or_false, Bool.false_or] at h1 h2
    obtain ⟨v, hv, hvw⟩ := List.any_eq_true.mp h2
    rw [of_decide_eq_true hvw] at hv
    exact hts w (List.mem_filter.mpr ⟨hv, h1⟩)
theorem ax_nw {s U : State} (hW : s.WarmedH U.vm) (h : ∀ w ∈ ax_nb, va_Nw w s) : ∀ w ∈ ax_nb, va_Nw w U := by
  intro w hw
  have h0 := h w hw
  simp only [ax_nb, List.mem_cons, List.not_mem_nil, or_false] at hw
  rcases hw with rfl | rfl | rfl | rfl
  · exact va_Nw.warmC hW h0
  · exact va_Nw.warmD hW h0
  · exact va_Nw.warmD hW h0
  · exact va_Nw.warmD hW h0
theorem ax_T_at {g : am_g} {sa : Nat} {s U : State} {H : Heap} {locs : List Loc} (hU : ax_T g sa s s.heap) (hS : va_S (g_F g) s.heap H locs) (hUH : U.heap = H) (hW : s.WarmedH U.vm) : ax_T g sa U U.heap := by
  obtain ⟨h1, h2, h3, h4⟩ := hU
  have hk : ∀ a : Nat, a < s.heap.size → ¬ g_F g a → U.heap[a]? = s.heap[a]? := fun a hl ha => by rw [hUH]; exact hS.2.1 a hl ha
  exact ⟨(h1.kept hk).moved hW.alike, (h2.kept hk).moved hW.alike, vk_R.warm hW h3, ax_nw hW h4⟩
theorem W_triv {p : Program} {l : Launch} {e : Env} {R : Room} {s : State} {m : MethodId} {args : Array Value} {below : List Frame} {meth : Method} {c : Code} {H : Heap} {locs : List Loc} {cells slots : Nat} {Q : State → Prop} {f : JFrame} (h : ∀ t, Q t) : W p l e R s m args below meth c H locs cells slots Q f := fun T _ _ => ⟨T.setTop f, Steps.refl _, h _⟩
theorem W_mono {p : Program} {l : Launch} {e : Env} {R : Room} {s : State} {m : MethodId} {args : Array Value} {below : List Frame} {meth : Method} {c : Code} {H : Heap} {locs : List Loc} {cells slots : Nat} {Q Q' : State → Prop} {f : JFrame} (h : ∀ t, Q t → Q' t) (k : W p l e R s m args below meth c H locs cells slots Q f) : W p l e R s m args below meth c H locs cells slots Q' f := fun T hT X => by
  obtain ⟨t, a, b⟩ := k T hT X
  exact ⟨t, a, h t b⟩
/-- what the call rests on, in memory -/
def ax_M (M : am_M) : Prop := gR M 0 1 = some 3 ∧ gR M 3 1 = some 8 ∧ gR M 3 2 = some 9 ∧ (gI M 3 3).toInt ≤ 4
def ax_K (M : am_M) (p0 p1 : Int32) : Prop := 0 ≤ p0 ∧ p0 < gI M 3 3 ∧ 0 ≤ p1 ∧ p1 ≤ 1
def ax_V (M : am_M) (p0 p1 : Int32) : Int32 := if p1 = 0 then gI M 8 p0.toNatClampNeg else gI M 9 p0.toNatClampNeg
def ax_Qc (g : am_g) (M : am_M) (p0 p1 : Int32) : Array Value → State → Outcome → State → Prop := va_Qi (fun (r : Int32) (_ : Unit) => ax_K M p0 p1 ∧ r = ax_V M p0 p1) (fun _ t => am_R g 488 M t.heap) (g_F g)
def ax_XC (g : am_g) (M : am_M) (p0 p1 : Int32) : String → State → State → Prop := vx_X (fun _ : Unit => ¬ ax_K M p0 p1) (fun E _ t => E = nse ∧ am_R g 488 M t.heap) (g_F g)
def ax_rm : Room := { frames := 16, cells := 8, slots := 64, locals := 768 }
theorem hasA_c {M : am_M} {d : Nat} {Q : am_Q} {x : Int32} : am_big (d + 1) mX8_hasApprentice [.ref 3, .int x] 488 M Q = Q (some (.int (bz (decide (0 ≤ x ∧ x < gI M 3 3))))) M := by
  rw [eX8_hasApprentice]
  by_cases c1 : x < 0
  · have e : ¬ (0 ≤ x ∧ x < gI M 3 3) := fun z => absurd c1 (Int32.not_lt.mpr z.1)
    rw [decide_eq_false e]
    simp (disch := (first | assumption | omega | decide)) only [sX8_hasApprentice_0, sX8_hasApprentice_1, sX8_hasApprentice_4, sX8_hasApprentice_5, sX8_hasApprentice_6, sX8_hasApprentice_9, sX8_hasApprentice_12, sX8_hasApprentice_13, sX8_hasApprentice_16, sX8_hasApprentice_17, kI_i, kL_l, kV_v, am_rv_s, am_kl_i, am_kl_r, am_kl_n, am_kl_l, true_and, and_true, and_self, true_or, or_true, implies_true, forall_const, not_true_eq_false, not_false_eq_true, false_implies, true_implies, if_true, if_false, Bool.true_eq_false, Bool.false_eq_true, c1, bz_f]
  · by_cases c2 : x < gI M 3 3
    · have e : 0 ≤ x ∧ x < gI M 3 3 := ⟨Int32.not_lt.mp c1, c2⟩
      have c3 : ¬ gI M 3 3 ≤ x := Int32.not_le.mpr c2
      rw [decide_eq_true e]
      simp (disch := (first | assumption | omega | decide)) only [sX8_hasApprentice_0, sX8_hasApprentice_1, sX8_hasApprentice_4, sX8_hasApprentice_5, sX8_hasApprentice_6, sX8_hasApprentice_9, sX8_hasApprentice_12, sX8_hasApprentice_13, sX8_hasApprentice_16, sX8_hasApprentice_17, kI_i, kL_l, kV_v, am_rv_s, am_kl_i, am_kl_r, am_kl_n, am_kl_l, true_and, and_true, and_self, true_or, or_true, implies_true, forall_const, not_true_eq_false, not_false_eq_true, false_implies, true_implies, if_true, if_false, Bool.true_eq_false, Bool.false_eq_true, c1, c2, c3, ob_3, bz_t]
    · have e : ¬ (0 ≤ x ∧ x < gI M 3 3) := fun z => c2 z.2
      have c3 : gI M 3 3 ≤ x := Int32.not_lt.mp c2
      rw [decide_eq_false e]
      simp (disch := (first | assumption | omega | decide)) only [sX8_hasApprentice_0, sX8_hasApprentice_1, sX8_hasApprentice_4, sX8_hasApprentice_5, sX8_hasApprentice_6, sX8_hasApprentice_9, sX8_hasApprentice_12, sX8_hasApprentice_13, sX8_hasApprentice_16, sX8_hasApprentice_17, kI_i, kL_l, kV_v, am_rv_s, am_kl_i, am_kl_r, am_kl_n, am_kl_l, true_and, and_true, and_self, true_or, or_true, implies_true, forall_const, not_true_eq_false, not_false_eq_true, false_implies, true_implies, if_true, if_false, Bool.true_eq_false, Bool.false_eq_true, c1, c2, c3, ob_3, bz_f]
section
variable {g : am_g} {l : Launch} {M : am_M} {p0 p1 : Int32} {sa : Nat}
theorem ax_gf {p : Program} {e : Env} {R : Room} {s : State} {m : MethodId} {args : Array Value} {below : List Frame} {meth : Method} {c : Code} {H : Heap} {locs : List Loc} {cells slots pc : Nat} {Q : State → Prop} {cc : ByteArray} {ls : Array Slot} {rest : List Value} (hx : p.tables.exec = Jvm.exec) (hb : c.code = cc) (hts : ∀ w ∈ am_tb, w.before args s = true) (hown : s.vm.findClass (am_cls 10) = some m.cls) (hU : am_U g s s.heap) (hR : am_R g 488 M H) {k : Nat} {q : Nat × Nat × Nat × Bool × Nat} (hq : am_fl 10 k = some q) {a : Nat} (ha : am_ob 488 a q.1) {v : Value} (hv : am_v g (am_fv q.2.2.1 M a q.2.1) = v) (hd : decode cc pc = .ok (.getfield k, 3))
    (kk : W p l e R s m args below meth c H locs cells slots Q (F0 m (pc + 3) ls (v :: rest))) : W p l e R s m args below meth c H locs cells slots Q (F0 m pc ls (.ref (g_b g + a) :: rest)) := by
  obtain ⟨rc, h1, h2, h3, h4, h5, h6⟩ := am_FLok _ _ _ hq
  obtain ⟨g1, g2, g3, g4, ty0, g5, g6⟩ := am_CLok _ _ h1
  subst hv
  exact va_get hx hb hts g1 hown hU.1 hR.2.1 a (am_obat ha) h1 q.2.1 h2 (hts _ h4) (fun _ z => z) (by rw [am_fs_at (by rw [g4]; exact h2), h3]) hd kk
theorem ax_rf {a : Nat} (h : a < 488) : am_v g (am_rv (some a)) = .ref (g_b g + a) := by
  show Value.ref (am_ad g a) = _
  rw [am_ad_own h (Nat.le_refl _)]
theorem ax_hasM {x : Int32} : Met l (am_nm mX8_hasApprentice) (am_ww mX8_hasApprentice) (am_rm 2 mX8_hasApprentice) (va_Pc [.ref (g_b g + 3), .int x] (am_Pre g 488 M)) (va_Qi (fun r (M' : am_M) => some (Value.int r) = some (.int (bz (decide (0 ≤ x ∧ x < gI M 3 3)))) ∧ M' = M) (fun M' t => am_R g 488 M' t.heap) (g_F g)) 0 0 (g_F g) := by
  have hm := (am_MLok.1 10 154 0 mX8_hasApprentice _ rfl).1
  have h := am_CD_all (g := g) (l := l) am_Tok am_Stok am_n9 2 mX8_hasApprentice [.ref 3, .int x] 488 M (fun r M' => r = some (.int (bz (decide (0 ≤ x ∧ x < gI M 3 3)))) ∧ M' = M) (by rw [hasA_c]; exact ⟨rfl, rfl⟩) hm (Nat.le_of_ble_eq_true rfl)
  have e : ([.ref 3, .int x] : List Value).map (am_v g) = [.ref (g_b g + 3), .int x] := am_stk (n := 488) (by omega) (Nat.le_refl _)
  rw [e] at h
  exact h
theorem ax_in {x : Int32} (hM : ax_M M) (h : 0 ≤ x ∧ x < gI M 3 3) : vp_in x 4 := by
  intro q
  have b := Int32.lt_iff_toInt_lt.mp h.2
  have hm := hM.2.2.2
  rcases q with q | q
  · exact absurd q (Int32.not_lt.mpr h.1)
  · have q : 4 ≤ x.toInt.toNat := q
    omega
set_option maxRecDepth 100000 in
set_option maxHeartbeats 2000000 in
theorem ax_X (hn : l.stackTraces = false) (hM : ax_M M) : vx_Met l yX10_apprentice (Cond.code yX10_apprentice cX10_apprentice 3 (some .int) :: am_tb) ax_rm (va_Pc [.ref (g_b g), .int p0, .int p1] (fun U => am_Pre g 488 M U ∧ ax_T g sa U U.heap)) (ax_Qc g M p0 p1) (ax_XC g M p0 p1) 8 64 (g_F g) := by
  refine vx_ofW (cc := cX10_apprentice) (maxL := 3) (ret := some .int) (by decide +kernel) rfl ?_
  intro p e s m args below meth c s₁ B hml hT hv
  obtain ⟨rfl, ⟨hR, hU, hbs, hz⟩, hE⟩ := hv
  have hx := B.exec
  have hb := B.bytes
  have hr := B.returns
  have hts0 := atoms_spec (ws := Cond.code yX10_apprentice cX10_apprentice 3 (some .int) :: am_tb) B.pre
  have hts : ∀ w ∈ am_tb, w.before ([.ref (g_b g), .int p0, .int p1] : List Value).toArray s = true := fun w hw => hts0 w (List.mem_cons_of_mem _ hw)
  have hown : s.vm.findClass (am_cls 10) = some m.cls := findClass_of_methodNamed B.named
  have hlocks := B.notSynchronized
  have hS : va_S (g_F g) s.heap s.heap [] := va_S.rf
  have hl := lv_entry ([.ref (g_b g), .int p0, .int p1]) (n := 3) (Nat.le_of_ble_eq_true rfl)
  rw [lg_entry_eq]
  generalize (lg_sl ([.ref (g_b g), .int p0, .int p1]) ++ List.replicate (3 - (lg_sl ([.ref (g_b g), .int p0, .int p1])).length) Slot.unset).toArray = ls at hl ⊢
  have o0 : am_ob 488 0 10 := by rw [ob_0]; trivial
  have o3 : am_ob 488 3 8 := by rw [ob_3]; trivial
  have v1 : am_v g (am_fv 2 M 0 1) = .ref (g_b g + 3) := by
    show am_v g (am_rv (gR M 0 1)) = _
    rw [hM.1]; exact ax_rf (by omega)
  have v8 : am_v g (am_fv 2 M 3 1) = .ref (g_b g + 8) := by
    show am_v g (am_rv (gR M 3 1)) = _
    rw [hM.2.1]; exact ax_rf (by omega)
  have v9 : am_v g (am_fv 2 M 3 2) = .ref (g_b g + 9) := by
    show am_v g (am_rv (gR M 3 2)) = _
    rw [hM.2.2.1]; exact ax_rf (by omega)
  have g20 : ∀ (H : Heap) (locs : List Loc), ¬ ax_K M p0 p1 → am_R g 488 M H → va_S (g_F g) s.heap H locs → W p l e (headSpec (Cond.code yX10_apprentice cX10_apprentice 3 (some .int) :: am_tb) ax_rm).room s m ([.ref (g_b g), .int p0, .int p1] : List Value).toArray below meth c H locs 0 0 (vx_MQ below (ax_Qc g M p0 p1) (ax_XC g M p0 p1) ([.ref (g_b g), .int p0, .int p1] : List Value).toArray s 8 64 (g_F g)) (F0 m 20 ls []) := by
    intro H locs hn2 hR hS
    obtain ⟨h1, h2, h3, h4⟩ := hE
    exact xt_throw (A := g_F g) (own := RX10) (text := "no such apprentice or question") (ik := 157) (is := 159) (ic := 161) (sa := sa) hx hb hn hown (hts _ (am_tb_at 1121 (by decide +kernel) (by decide))) (hts _ (am_tb_at 120 (by decide +kernel) (by decide))) h3 (ax_w hts h4) (fun w hw => List.all_eq_true.mp ax_o w hw) h1 h2 hS (by rw [hml]; exact hl.1) (by decide +kernel) (by decide +kernel) (by decide +kernel) (by decide +kernel) (by decide +kernel) (fun x hx => (hT x hx).elim) (by decide) (by decide) (by decide) (by decide) hlocks (fun t hvm hsz hk => ⟨(), hn2, ⟨rfl, am_R_keep hR hk⟩, ⟨Nat.le_trans hS.1 hsz, fun q hq hA => by rw [hk q (Nat.lt_of_lt_of_le hq hS.1)]; exact hS.2.1 q hq hA⟩⟩) (fun z hz => hS.2.2 z hz) (by decide) (by decide)
  refine lv_aload_n hx hb (show decode _ _ = .ok (.aload_n 0, 1) by decide +kernel) rfl (lv_at hl 0 rfl) ?_
  refine ax_gf (a := 0) (k := 19) hx hb hts hown hU hR rfl o0 v1 (by decide +kernel) ?_
  refine lv_iload_n hx hb (show decode _ _ = .ok (.iload_n 1, 1) by decide +kernel) rfl (lv_at hl 1 rfl) ?_
  obtain ⟨hm, k1, k2, k3, r, k4, k5⟩ := am_MLok.1 10 154 0 mX8_hasApprentice _ rfl
  have hG : GoodIn am_tb (wsV (am_cls 10) 154 (am_nm mX8_hasApprentice).cls (am_nm mX8_hasApprentice) (am_ww mX8_hasApprentice)) := by
    intro w hw
    rcases List.mem_append.mp hw with hw | hw
    · simp only [List.mem_cons, List.not_mem_nil, or_false] at hw
      rcases hw with rfl | rfl | rfl | rfl
      · exact am_gd k1
      · exact am_gd k2
      · exact am_gd k3
      · exact am_gd hm.2.2.1
    · exact am_ww_good hm w hw
  have hrv := va_recv hU.1 hR.2.1 k4 (am_obat (g := g) (M := M) o3)
  rw [k5] at hrv
  refine va_calli (va_runV (C := (am_nm mX8_hasApprentice).cls) (b := g_b g + 3) (As := [.int p0]) (rest := []) ⟨hx, hb, hml, hown, hts⟩ (ax_hasM (g := g) (l := l) (M := M) (x := p0)) (cwV 1 hts hG rfl rfl rfl ⟨rfl, hm.2.2.2.1⟩ ⟨Nat.le_of_ble_eq_true rfl, Nat.le_of_ble_eq_true rfl⟩) ⟨am_Pre_blind, hrv, fun U hUH hW => ⟨rfl, by rw [hUH]; exact hR, am_U_at hU hS hbs hUH hW, by rw [hUH]; exact hbs, fun q => absurd q (by decide)⟩⟩ rfl rfl hl.1 rfl (lv_room (Nat.le_of_ble_eq_true rfl)) (show decode cX10_apprentice 5 = .ok (.invokevirtual 154, 3) by decide +kernel) ⟨Nat.zero_le _, Nat.zero_le _⟩) hS (fun _ _ h => h) (fun _ h => h) (fun r1 u t H locs ht hvm hp hB q1 q2 hS => ?_)
  obtain ⟨hp1, rfl⟩ := hp
  cases hp1
  have hR : am_R g 488 u H := by rw [← ht]; exact hB
  by_cases hP : 0 ≤ p0 ∧ p0 < gI u 3 3
  · rw [decide_eq_true hP, bz_t]
    have hin := ax_in hM hP
    refine lv_if_eq (off := 12) (tgt := 20) hx hb (by decide +kernel) (by decide) (fun h => absurd h (by decide)) (fun _ => ?_)
    refine lv_iload_n hx hb (show decode _ _ = .ok (.iload_n 2, 1) by decide +kernel) rfl (lv_at hl 2 rfl) ?_
    refine lv_if_lt (off := 8) (tgt := 20) hx hb (by decide +kernel) (by decide) (fun h => g20 _ _ (fun z => absurd h (Int32.not_lt.mpr z.2.2.1)) hR hS) (fun h3 => ?_)
    refine lv_iload_n hx hb (show decode _ _ = .ok (.iload_n 2, 1) by decide +kernel) rfl (lv_at hl 2 rfl) ?_
    refine lv_iconst (n := 1) (v := 1) hx hb (by decide +kernel) (by decide) ?_
    refine lv_icmp_le (off := 13) (tgt := 30) hx hb (by decide +kernel) (by decide) (fun h4 => ?_) (fun h => g20 _ _ (fun z => absurd z.2.2.2 h) hR hS)
    have hK : ax_K u p0 p1 := ⟨hP.1, hP.2, Int32.not_lt.mp h3, h4⟩
    refine lv_iload_n hx hb (show decode _ _ = .ok (.iload_n 2, 1) by decide +kernel) rfl (lv_at hl 2 rfl) ?_
    refine lv_if_ne (off := 15) (tgt := 46) hx hb (by decide +kernel) (by decide) (fun h5 => ?_) (fun h5 => ?_)
    · refine lv_aload_n hx hb (show decode _ _ = .ok (.aload_n 0, 1) by decide +kernel) rfl (lv_at hl 0 rfl) ?_
      refine ax_gf (a := 0) (k := 19) hx hb hts hown hU hR rfl o0 v1 (by decide +kernel) ?_
      refine ax_gf (a := 3) (k := 168) hx hb hts hown hU hR rfl o3 v9 (by decide +kernel) ?_
      refine lv_iload_n hx hb (show decode _ _ = .ok (.iload_n 1, 1) by decide +kernel) rfl (lv_at hl 1 rfl) ?_
      refine va_iald hx hb hU.1 hR.2.1 9 0 (am_arat (kd := 1) (g := g) (M := u) (a := 9) (n := 488) (by omega) (am_E_1 rfl)) rfl hin (by decide +kernel) ?_
      refine vx_ret (W.widen (k := 8) (n := 64) (by decide) (by decide) (W.iret hx hb hr (fun t ht _ => ⟨⟨_, (), rfl, ⟨hK, ?_⟩, ?_⟩, hS.F ht⟩) hS.2.2 (by decide +kernel) hlocks))
      · unfold ax_V; rw [if_neg h5]
      · show am_R g 488 u t.heap; rw [ht]; exact hR
    · refine lv_aload_n hx hb (show decode _ _ = .ok (.aload_n 0, 1) by decide +kernel) rfl (lv_at hl 0 rfl) ?_
      refine ax_gf (a := 0) (k := 19) hx hb hts hown hU hR rfl o0 v1 (by decide +kernel) ?_
      refine ax_gf (a := 3) (k := 164) hx hb hts hown hU hR rfl o3 v8 (by decide +kernel) ?_
      refine lv_iload_n hx hb (show decode _ _ = .ok (.iload_n 1, 1) by decide +kernel) rfl (lv_at hl 1 rfl) ?_
      refine va_iald hx hb hU.1 hR.2.1 8 0 (am_arat (kd := 1) (g := g) (M := u) (a := 8) (n := 488) (by omega) (am_E_1 rfl)) rfl hin (by decide +kernel) ?_
      refine lv_goto (off := 12) (tgt := 55) hx hb (by decide +kernel) (by decide) ?_
      refine vx_ret (W.widen (k := 8) (n := 64) (by decide) (by decide) (W.iret hx hb hr (fun t ht _ => ⟨⟨_, (), rfl, ⟨hK, ?_⟩, ?_⟩, hS.F ht⟩) hS.2.2 (by decide +kernel) hlocks))
      · unfold ax_V; rw [if_pos h5]
      · show am_R g 488 u t.heap; rw [ht]; exact hR
  · rw [decide_eq_false hP, bz_f]
    refine lv_if_eq (off := 12) (tgt := 20) hx hb (by decide +kernel) (by decide) (fun _ => g20 _ _ (fun z => hP ⟨z.1, z.2.1⟩) hR hS) (fun h => absurd rfl h)
end
