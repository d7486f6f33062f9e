/-! the law's own apprentice: it calls the class's and catches what goes out -/
def ax_hh : List (Nat × Nat × Nat × Nat) := [(0, 10, 13, 13)]
def ax_Lw : List Cond := Cond.codeWith yL_apprentice cL_apprentice 5 (some .int) ax_hh :: am_tb
def ax_Lr : Room := { frames := 20, cells := 8, slots := 64, locals := 1000 }
def ax_Xw : List Cond := Cond.code yX10_apprentice cX10_apprentice 3 (some .int) :: am_tb
def ax_row : ExceptionTableEntry := { startPc := 0, endPc := 10, handlerPc := 13, catchType := 13 }
def ax_Lp (M : am_M) (p0 p1 : Int32) (r : Int32) (M' : am_M) : Prop := (ax_K M p0 p1 → r = 0 ∧ M' = sL M 487 0 (ax_V M p0 p1).toInt64) ∧ (¬ ax_K M p0 p1 → r = 1 ∧ M' = M)
theorem ax_Xg : GoodIn am_tb (wsV RL 7 RX10 yX10_apprentice ax_Xw) := by
  intro w hw
  rcases List.mem_append.mp hw with hw | hw
  · simp only [List.mem_cons, List.not_mem_nil, or_false] at hw
    rcases hw with rfl | rfl | rfl | rfl
    · exact am_gd (am_tb_at 1117 (by decide +kernel) (by decide))
    · exact am_gd (am_tb_at 1118 (by decide +kernel) (by decide))
    · exact am_gd (am_tb_at 1119 (by decide +kernel) (by decide))
    · exact am_gd (am_tb_at 99 (by decide +kernel) (by decide))
  · rcases List.mem_cons.mp hw with rfl | hw
    · exact am_gd (am_tb_at 1120 (by decide +kernel) (by decide))
    · exact am_gd hw
section
variable {g : am_g} {l : Launch} {M : am_M} {p0 p1 : Int32} {sa : Nat}
theorem ax_blind {av : List Value} : FrameBlind (va_Pc av (fun U => am_Pre g 488 M U ∧ ax_T g sa U U.heap)) := by
  intro a U f mk hq
  obtain ⟨h1, h2, h3⟩ := hq
  have e1 : (U.calling f mk a).heap = U.heap := rfl
  have e2 : (U.calling f mk a).vm = U.vm := rfl
  refine ⟨h1, (am_Pre_blind (av := av) a U f mk ⟨h1, h2⟩).2, ?_⟩
  exact ax_T_at (locs := []) h3 va_S.rf e1 (by rw [e2]; exact State.WarmedH.refl U)
theorem ax_pre {s U : State} {H : Heap} {locs : List Loc} (hR : am_R g 488 M H) (hU : am_U g s s.heap) (hbs : g_b g ≤ s.heap.size) (hE : ax_T g sa s s.heap) (hS : va_S (g_F g) s.heap H locs) (hUH : U.heap = H) (hW : s.WarmedH U.vm) : am_Pre g 488 M U ∧ ax_T g sa U U.heap :=
  ⟨⟨by rw [hUH]; exact hR, am_U_at hU hS hbs hUH hW, by rw [hUH]; exact Nat.le_trans hbs hS.1, fun q => absurd q (by decide)⟩, ax_T_at hE hS hUH hW⟩
set_option maxRecDepth 100000 in
set_option maxHeartbeats 2000000 in
theorem ax_L (hn : l.stackTraces = false) (hM : ax_M M) : Met l yL_apprentice ax_Lw ax_Lr (va_Pc [.ref (g_b g), .int p0, .int p1, .ref (g_b g + 487)] (fun U => am_Pre g 488 M U ∧ ax_T g sa U U.heap)) (va_Qi (ax_Lp M p0 p1) (fun M' t => am_R g 488 M' t.heap) (g_F g)) 8 64 (g_F g) := by
  refine va_MetW (cc := cL_apprentice) (maxL := 5) (ret := some .int) (hh := ax_hh) (by decide +kernel) rfl ?_
  intro p e s m args below meth c s₁ B hml hv
  obtain ⟨rfl, ⟨hR, hU, hbs, hz⟩, hE⟩ := hv
  have hx := B.exec
  have hb := B.bytes
  have hr := B.returns
  have hts0 := atoms_spec (ws := ax_Lw) B.pre
  have hts : ∀ w ∈ am_tb, w.before ([.ref (g_b g), .int p0, .int p1, .ref (g_b g + 487)] : List Value).toArray s = true := fun w hw => hts0 w (List.mem_cons_of_mem _ hw)
  have htab : c.exceptionTable.toList = [ax_row] := vx_table (x := yL_apprentice) B (hts0 _ List.mem_cons_self)
  have hown : s.vm.findClass RL = some m.cls := findClass_of_methodNamed B.named
  have hlocks := B.notSynchronized
  have hS : va_S (g_F g) s.heap s.heap [] := va_S.rf
  have hl := lv_entry ([.ref (g_b g), .int p0, .int p1, .ref (g_b g + 487)]) (n := 5) (Nat.le_of_ble_eq_true rfl)
  rw [lg_entry_eq]
  generalize (lg_sl ([.ref (g_b g), .int p0, .int p1, .ref (g_b g + 487)]) ++ List.replicate (5 - (lg_sl ([.ref (g_b g), .int p0, .int p1, .ref (g_b g + 487)])).length) Slot.unset).toArray = ls at hl ⊢
  have o0 : am_ob 488 0 10 := by rw [ob_0]; trivial
  have hrv := va_recv hU.1 hR.2.1 (ci := 10) rfl (am_obat (g := g) (M := M) o0)
  refine lv_aload_n hx hb (show decode _ _ = .ok (.aload_n 3, 1) by decide +kernel) rfl (lv_at hl 3 rfl) ?_
  refine lv_iconst (n := 0) (v := 0) hx hb (by decide +kernel) (by decide) ?_
  refine lv_aload_n hx hb (show decode _ _ = .ok (.aload_n 0, 1) by decide +kernel) rfl (lv_at hl 0 rfl) ?_
  refine lv_iload_n hx hb (show decode _ _ = .ok (.iload_n 1, 1) by decide +kernel) rfl (lv_at hl 1 rfl) ?_
  refine lv_iload_n hx hb (show decode _ _ = .ok (.iload_n 2, 1) by decide +kernel) rfl (lv_at hl 2 rfl) ?_
  refine vx_calli (vx_runV (C := RX10) (b := g_b g) (As := [.int p0, .int p1]) (rest := [.int 0, .ref (g_b g + 487)]) ⟨hx, hb, hml, hown, hts⟩ (ax_X (g := g) (M := M) (p0 := p0) (p1 := p1) (sa := sa) hn hM) (cwV 2 hts ax_Xg rfl rfl rfl (by decide +kernel) ⟨Nat.le_of_ble_eq_true rfl, Nat.le_of_ble_eq_true rfl⟩) ⟨ax_blind, hrv, fun U hUH hW => ⟨rfl, ax_pre hR hU hbs hE hS hUH hW⟩⟩ rfl rfl hl.1 rfl (lv_room (Nat.le_of_ble_eq_true rfl)) (show decode cL_apprentice 5 = .ok (.invokevirtual 7, 3) by decide +kernel) ⟨Nat.le_of_ble_eq_true rfl, Nat.le_of_ble_eq_true rfl⟩) hS (fun _ _ h => h) (fun _ h => h) (fun _ _ h => h) (fun E ce q9 u t H locs ht hvm hp hB q1 q2 hS hce hcv hcl => ?_) (fun r u t H locs ht hvm hp hB q1 q2 hS => ?_)
  · obtain ⟨rfl, hB⟩ := hB
    have hR : am_R g 488 M H := by rw [← ht]; exact hB
    refine ax_catch (name := nse) hown ax_row htab (by decide) (by decide) (hts _ (am_tb_at 1116 (by decide +kernel) (by decide))) (va_Nw.use rfl (hE.2.2.2 _ List.mem_cons_self)) hce hcv hcl ?_
    refine lv_astore (i := 4) (nL := 5) hx hb (show decode cL_apprentice 13 = .ok (.astore 4, 2) by decide +kernel) hl (by decide) rfl (fun ls' hl' => ?_)
    refine lv_iconst (n := 1) (v := 1) hx hb (show decode cL_apprentice 15 = .ok (.iconst 1, 1) by decide +kernel) (by decide) ?_
    exact W.iret hx hb hr (fun t ht _ => ⟨⟨_, M, rfl, ⟨fun z => absurd z hp, fun _ => ⟨rfl, rfl⟩⟩, by show am_R g 488 M t.heap; rw [ht]; exact hR⟩, hS.F ht⟩) hS.2.2 (show decode cL_apprentice 16 = .ok (.ireturn, 1) by decide +kernel) hlocks
  · have hR : am_R g 488 M H := by rw [← ht]; exact hB
    obtain ⟨hK, rfl⟩ := hp
    refine lv_i2l (v := (ax_V M p0 p1).toInt64) hx hb (by decide +kernel) rfl ?_
    refine va_last hx hb hU.1 hR.2.1 am_Wd_D hS 487 3 (am_arat (kd := 1) (g := g) (M := M) (a := 487) (n := 488) (by omega) (am_E_4 rfl)) rfl (i := 0) (x := (ax_V M p0 p1).toInt64) (show ¬ ((0 : Int32) < 0 ∨ 1 ≤ (0 : Int32).toNatClampNeg) by decide) (by decide +kernel) (fun H1 locs1 hP _ hS1 => ?_)
    have hR1 : am_R g 488 (sL M 487 0 (ax_V M p0 p1).toInt64) H1 := am_R_st hR (by omega) (by rw [am_E_4 rfl, am_gL_upd]; rfl) hP (fun _ _ _ => rfl) am_sL_o (fun _ _ _ => rfl)
    refine lv_goto (off := 7) (tgt := 17) hx hb (by decide +kernel) (by decide) ?_
    refine lv_iconst (n := 0) (v := 0) hx hb (by decide +kernel) (by decide) ?_
    exact W.iret hx hb hr (fun t ht _ => ⟨⟨_, sL M 487 0 (ax_V M p0 p1).toInt64, rfl, ⟨fun _ => ⟨rfl, rfl⟩, fun z => absurd hK z⟩, by show am_R g 488 _ t.heap; rw [ht]; exact hR1⟩, hS1.F ht⟩) hS1.2.2 (by decide +kernel) hlocks
end
