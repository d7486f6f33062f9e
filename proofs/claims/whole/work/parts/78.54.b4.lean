section
variable {M N : am_M} {sc : Nat → Int32}
theorem bys_K (w : Int32) : ∀ c, c ∈ bys w → 0 < c ∧ c < 256 := by
  have one : ∀ k c, c ∈ by1 (byt w k) → 0 < c ∧ c < 256 := fun k c hc => by
    unfold by1 at hc
    split at hc
    · cases hc
    · rename_i z
      rw [List.mem_singleton] at hc
      have := byt_lt w k
      omega
  intro c hc
  unfold bys at hc
  simp only [List.mem_append] at hc
  rcases hc with ((hc | hc) | hc) | hc <;> exact one _ c hc
theorem fed_K {a b c e f : Int32} : tpK (fed a b c e f) := fun x hx => by
  unfold fed at hx
  simp only [List.mem_append] at hx
  rcases hx with (((hx | hx) | hx) | hx) | hx <;> exact bys_K _ x hx
theorem feed_K {tp : List Nat} {a b c e f : Int32} (h : tpK tp) : tpK (feedS tp a b c e f).2 := by
  unfold feedS
  split
  · exact h
  · intro x hx
    rcases List.mem_append.mp hx with hx | hx
    · exact h x hx
    · exact fed_K x hx
theorem end_K {tp : List Nat} {n : Int32} (h : tpK tp) : tpK (endS tp n).2 := by
  unfold endS
  split
  · exact h
  · exact fun x hx => h x (List.mem_of_mem_take hx)
theorem B_feed {a b c e f : Int32} (hI : IV sc M) : BB sc M mX10_feed mX11_feed [.int a, .int b, .int c, .int e, .int f] := by
  obtain ⟨hW, hs, tp, ap, lim, lm, S, P, im, LL, h, PL, hv, L, hC, hM, hO⟩ := hI
  obtain ⟨tc, dr, st, pa, ic, lb, pc, hh, se⟩ := id hC
  obtain ⟨M1, e1, t1, f1⟩ := c_feed (a := a) (b := b) (c := c) (e := e) (f := f) hW tc
  have W1 := f1.2 hW
  have hM1 := IM_C f1 (fun c j z => by unfold XT at z; omega) hM
  have hs1 := SC_F f1 (fun j z => by unfold XT at z; omega) hs
  obtain ⟨y1, y2, y3, y4, y5, y6, y7, y8, y9⟩ := hC
  have hC1 : IC M1 (feedS tp a b c e f).2 ap lim S P im LL h PL hv L := ⟨t1, DrC_Fw f1 (fun c j z => by unfold XT; omega) y2, StC_Fw f1 (fun c j x y => by unfold XT; omega) y3, PaC_Fw f1 (fun c j z => by unfold XT; omega) y4, ImC_Fw f1 (fun c j z => by unfold XT; omega) y5, LbC_Fw f1 (fun c j z => by unfold XT; omega) y6, PlC_Fw f1 (fun c j z => by unfold XT; omega) y7, (f1.I (by unfold XT; omega)).trans y8, SeC_Fw f1 (fun c j z => by unfold XT; omega) y9⟩
  obtain ⟨M2, e2, t2, f2⟩ := m_feed (a := a) (b := b) (c := c) (e := e) (f := f) W1 hM1.1
  obtain ⟨z1, z2, z3, ⟨z4, z4'⟩, z5, z6, z7, z8, z9⟩ := hM1
  refine ⟨_, M1, M2, fun Q => e1 38 Q, fun Q => e2 38 Q, hs1, f2.2 W1, SC_F f2 (fun j z => by unfold XTm at z; omega) hs1, (feedS tp a b c e f).2, ap, lim, lm, S, P, im, LL, h, PL, hv, L, IC_M f2 (fun c j z => by unfold XTm at z; omega) hC1, ⟨t2, StM_Fw f2 (fun j => by unfold XTm; omega) z2, PaM_Fw f2 (fun j => by unfold XTm; omega) (by unfold XTm; omega) z3, ⟨(f2.I (by unfold XTm; omega)).trans z4, (f2.I (by unfold XTm; omega)).trans z4'⟩, ImM_Fw f2 (fun c j z => by unfold XTm; omega) z5, LbM_Fw f2 (fun c j z => by unfold XTm; omega) z6, PlM_Fw f2 (fun c j z => by unfold XTm; omega) z7, (f2.I (by unfold XTm; omega)).trans z8, SeM_Fw f2 (fun c j z => by unfold XTm; omega) z9⟩, ⟨feed_K hO.1, hO.2⟩⟩
theorem B_end {n : Int32} (hI : IV sc M) : BB sc M mX10_end mX11_end [.int n] := by
  obtain ⟨hW, hs, tp, ap, lim, lm, S, P, im, LL, h, PL, hv, L, hC, hM, hO⟩ := hI
  obtain ⟨tc, dr, st, pa, ic, lb, pc, hh, se⟩ := id hC
  obtain ⟨M1, e1, t1, f1⟩ := c_end (n := n) hW tc
  have W1 := f1.2 hW
  have hM1 := IM_C f1 (fun c j z => by unfold XT at z; omega) hM
  have hs1 := SC_F f1 (fun j z => by unfold XT at z; omega) hs
  obtain ⟨y1, y2, y3, y4, y5, y6, y7, y8, y9⟩ := hC
  have hC1 : IC M1 (endS tp n).2 ap lim S P im LL h PL hv L := ⟨t1, DrC_Fw f1 (fun c j z => by unfold XT; omega) y2, StC_Fw f1 (fun c j x y => by unfold XT; omega) y3, PaC_Fw f1 (fun c j z => by unfold XT; omega) y4, ImC_Fw f1 (fun c j z => by unfold XT; omega) y5, LbC_Fw f1 (fun c j z => by unfold XT; omega) y6, PlC_Fw f1 (fun c j z => by unfold XT; omega) y7, (f1.I (by unfold XT; omega)).trans y8, SeC_Fw f1 (fun c j z => by unfold XT; omega) y9⟩
  obtain ⟨M2, e2, t2, f2⟩ := m_end (n := n) W1 hM1.1
  obtain ⟨z1, z2, z3, ⟨z4, z4'⟩, z5, z6, z7, z8, z9⟩ := hM1
  refine ⟨_, M1, M2, fun Q => e1 39 Q, fun Q => e2 39 Q, hs1, f2.2 W1, SC_F f2 (fun j z => by unfold XTm at z; omega) hs1, (endS tp n).2, ap, lim, lm, S, P, im, LL, h, PL, hv, L, IC_M f2 (fun c j z => by unfold XTm at z; omega) hC1, ⟨t2, StM_Fw f2 (fun j => by unfold XTm; omega) z2, PaM_Fw f2 (fun j => by unfold XTm; omega) (by unfold XTm; omega) z3, ⟨(f2.I (by unfold XTm; omega)).trans z4, (f2.I (by unfold XTm; omega)).trans z4'⟩, ImM_Fw f2 (fun c j z => by unfold XTm; omega) z5, LbM_Fw f2 (fun c j z => by unfold XTm; omega) z6, PlM_Fw f2 (fun c j z => by unfold XTm; omega) z7, (f2.I (by unfold XTm; omega)).trans z8, SeM_Fw f2 (fun c j z => by unfold XTm; omega) z9⟩, ⟨end_K hO.1, hO.2⟩⟩
theorem B_fault {so : Int32} (hI : IV sc M) : BB sc M mX10_fault mX11_fault [.int so] := by
  obtain ⟨hW, hs, tp, ap, lim, lm, S, P, im, LL, h, PL, hv, L, hC, hM, hO⟩ := hI
  obtain ⟨M1, e1, _, f1⟩ := c_fault (so := so) (d := 40) (by omega) hW hC.1
  obtain ⟨W1, hs1, hC1, hM1⟩ := C_q hW hs hC hM f1 (fun c j w => by unfold XRd at w; unfold KC; omega)
  obtain ⟨M2, e2, f2⟩ := m_fault (so := so) (d := 40) (by omega) W1 hM1.1 hO.1 hM1.2.2.2.2.2.1.2.2.2.2.2.2.2
  exact ⟨_, M1, M2, e1, e2, hs1, IV_q W1 hs1 hC1 hM1 hO f2 (fun c j w => by unfold XFm at w; unfold KM0 KML; omega)⟩
theorem B_count {v : Int32} (hI : IV sc M) : BB sc M mX10_count mX11_count [.int v] := by
  obtain ⟨hW, hs, tp, ap, lim, lm, S, P, im, LL, h, PL, hv, L, hC, hM, hO⟩ := hI
  obtain ⟨tc, dr, st, pa, ic, lb, pc, hh, se⟩ := id hC
  have k11 : gI M 30 2 = nI P.length := by obtain ⟨old, _, _, q, _⟩ := pa; exact q
  have e1 := fun (Q : am_Q) => c_count (d := 38) (Q := Q) (v := v) hW st lb.1 pc.1 tc.1 lb.2.1 hh se.1 k11
  have e2 := fun (Q : am_Q) => m_count (d := 38) (Q := Q) (v := v) (RS_of hW hC hM hO) hM.2.2.2.2.2.1.1 hM.2.2.2.2.2.2.1.1 hM.1.1 hM.2.2.2.2.2.1.2.1 hM.2.2.2.2.2.2.2.1 hM.2.2.2.2.2.2.2.2.1 hM.2.2.1.1
  rw [countA_l hO.2.2.2.1] at e2
  exact ⟨_, M, _, e1, e2, hs, IV_th hW hs hC hM hO⟩
theorem hld_l {LL : List (List Nat)} {v : Int32} (h4 : LL.length ≤ 4) (h : lawA LL.length v = true) : hld LL v := by
  unfold lawA at h
  rw [decide_eq_true_eq] at h
  rcases h with h | h
  · exact Or.inl h
  · obtain ⟨k, hk, rfl⟩ := nI_of (Int32.not_lt.mpr h.1)
    refine Or.inr ⟨k, ?_, rfl⟩
    have := h.2
    rwa [nI_ltE hk (by omega)] at this
theorem B_law {v : Int32} (hI : IV sc M) : BB sc M mX10_law mX11_law [.int v] := by
  obtain ⟨hW, hs, tp, ap, lim, lm, S, P, im, LL, h, PL, hv, L, hC, hM, hO⟩ := hI
  obtain ⟨tc, dr, st, pa, ic, lb, pc, hh, se⟩ := id hC
  have e1 := fun (Q : am_Q) => c_law (d := 39) (Q := Q) (v := v) hW lb.1
  cases c : lawA LL.length v with
  | false =>
    have e2 := fun (Q : am_Q) => m_law (d := 38) (Q := Q) (v := v) lb.2.2.1 hM.2.2.2.2.2.1.1
    rw [c, if_neg (by decide)] at e1 e2
    exact ⟨_, M, _, e1, e2, hs, IV_th hW hs hC hM hO⟩
  | true =>
    have f1 : Fw (fun c j => c = 392 ∧ j = 3) M (sI M 392 3 v) := Fw.s ⟨rfl, rfl⟩
    have hM1 := IM_C f1 (fun c j z => by omega) hM
    have hs1 := SC_F f1 (fun j z => by omega) hs
    have W1 := f1.2 hW
    have e2 := fun (Q : am_Q) => m_law (d := 38) (Q := Q) (v := v) lb.2.2.1 hM1.2.2.2.2.2.1.1
    rw [c, if_pos rfl] at e1 e2
    obtain ⟨y1, y2, y3, y4, y5, y6, y7, y8, y9⟩ := hC
    have hd := hld_l lb.2.2.1 c
    have lb1 : LbC (sI M 392 3 v) LL v := by
      obtain ⟨b1, b2, b3, b4, b5, b6⟩ := lb
      refine ⟨(gI_j (by omega)).trans b1, gI_e, b3, b4, hd, fun i hi => ?_⟩
      exact LW_of (fun j => gI_o (by omega)) (fun j => gI_o (by omega)) (fun j => rfl) (b6 i hi)
    have hC1 : IC (sI M 392 3 v) tp ap lim S P im LL v PL hv L := ⟨TC_Fw f1 (fun c j z => by omega) y1, DrC_Fw f1 (fun c j z => by omega) y2, StC_Fw f1 (fun c j x y => by omega) y3, PaC_Fw f1 (fun c j z => by omega) y4, ImC_Fw f1 (fun c j z => by omega) y5, lb1, PlC_Fw f1 (fun c j z => by omega) y7, (f1.I (by omega)).trans y8, SeC_Fw f1 (fun c j z => by omega) y9⟩
    generalize hM1' : sI M 392 3 v = M1 at *
    have f2 : Fw (fun c j => c = 457 ∧ (j = 0 ∨ j = 29)) M1 (sI (sI M1 457 0 0) 457 29 v) := (Fw.s (by omega)).tr (Fw.s (by omega))
    obtain ⟨z1, z2, z3, ⟨z4, z4'⟩, z5, z6, z7, z8, z9⟩ := hM1
    have lb2 : LbM (sI (sI M1 457 0 0) 457 29 v) LL v := by
      obtain ⟨b1, b2, b3, b4, b5, b6, b7, b8⟩ := z6
      refine ⟨(f2.I (by omega)).trans b1, gI_e, b3, b4, hd, fun i hi => ⟨(f2.I (by omega)).trans (b6 i hi).1, fun k hk => (f2.I (by omega)).trans ((b6 i hi).2 k hk)⟩, fun s hs => ?_, LMt_e (fun j => f2.I (by omega)) b8⟩
      rw [f2.L (by omega), f2.I (by omega)]
      exact b7 s hs
    exact ⟨_, M1, _, e1, e2, hs1, f2.2 W1, SC_F f2 (fun j z => by omega) hs1, tp, ap, lim, lm, S, P, im, LL, v, PL, hv, L, IC_M f2 (fun c j z => by omega) hC1, ⟨TM_Fw f2 (fun c j z => by omega) z1, StM_Fw f2 (fun j => by omega) z2, PaM_Fw f2 (fun j => by omega) (by omega) z3, ⟨(f2.I (by omega)).trans z4, (f2.I (by omega)).trans z4'⟩, ImM_Fw f2 (fun c j z => by omega) z5, lb2, PlM_Fw f2 (fun c j z => by omega) z7, (f2.I (by omega)).trans z8, SeM_Fw f2 (fun c j z => by omega) z9⟩, hO⟩
theorem B_haste {v : Int32} (hI : IV sc M) : BB sc M mX10_haste mX11_haste [.int v] := by
  obtain ⟨hW, hs, tp, ap, lim, lm, S, P, im, LL, h, PL, hv, L, hC, hM, hO⟩ := hI
  obtain ⟨tc, dr, st, pa, ic, lb, pc, hh, se⟩ := id hC
  have e1 := fun (Q : am_Q) => c_haste (d := 39) (Q := Q) (v := v) hh
  cases c : hasteA hv v with
  | false =>
    have e2 := fun (Q : am_Q) => m_haste (d := 38) (Q := Q) (v := v) hM.2.2.2.2.2.2.2.1
    rw [c, if_neg (by decide)] at e1 e2
    exact ⟨_, M, _, e1, e2, hs, IV_th hW hs hC hM hO⟩
  | true =>
    have f1 : Fw (fun c j => c = 0 ∧ j = 16) M (sI M 0 16 v) := Fw.s ⟨rfl, rfl⟩
    have hM1 := IM_C f1 (fun c j z => by omega) hM
    have hs1 := SC_F f1 (fun j z => by omega) hs
    have W1 := f1.2 hW
    have e2 := fun (Q : am_Q) => m_haste (d := 38) (Q := Q) (v := v) hM1.2.2.2.2.2.2.2.1
    rw [c, if_pos rfl] at e1 e2
    obtain ⟨y1, y2, y3, y4, y5, y6, y7, y8, y9⟩ := hC
    have hC1 : IC (sI M 0 16 v) tp ap lim S P im LL h PL v L := ⟨TC_Fw f1 (fun c j z => by omega) y1, DrC_Fw f1 (fun c j z => by omega) y2, StC_Fw f1 (fun c j x y => by omega) y3, PaC_Fw f1 (fun c j z => by omega) y4, ImC_Fw f1 (fun c j z => by omega) y5, LbC_Fw f1 (fun c j z => by omega) y6, PlC_Fw f1 (fun c j z => by omega) y7, gI_e, SeC_Fw f1 (fun c j z => by omega) y9⟩
    generalize hM1' : sI M 0 16 v = M1 at *
    have f2 : Fw (fun c j => c = 457 ∧ (j = 0 ∨ j = 30)) M1 (sI (sI M1 457 0 0) 457 30 v) := (Fw.s (by omega)).tr (Fw.s (by omega))
    obtain ⟨z1, z2, z3, ⟨z4, z4'⟩, z5, z6, z7, z8, z9⟩ := hM1
    exact ⟨_, M1, _, e1, e2, hs1, f2.2 W1, SC_F f2 (fun j z => by omega) hs1, tp, ap, lim, lm, S, P, im, LL, h, PL, v, L, IC_M f2 (fun c j z => by omega) hC1, ⟨TM_Fw f2 (fun c j z => by omega) z1, StM_Fw f2 (fun j => by omega) z2, PaM_Fw f2 (fun j => by omega) (by omega) z3, ⟨(f2.I (by omega)).trans z4, (f2.I (by omega)).trans z4'⟩, ImM_Fw f2 (fun c j z => by omega) z5, LbM_Fw f2 (fun c j z => by omega) z6, PlM_Fw f2 (fun c j z => by omega) z7, gI_e, SeM_Fw f2 (fun c j z => by omega) z9⟩, hO⟩
theorem B_seen {so v : Int32} {b : Bool} (hI : IV sc M) : BB sc M mX10_seen mX11_seen [.int so, .int v, .int (bz b)] := by
  obtain ⟨hW, hs, tp, ap, lim, lm, S, P, im, LL, h, PL, hv, L, hC, hM, hO⟩ := hI
  obtain ⟨tc, dr, st, pa, ic, lb, pc, hh, se⟩ := id hC
  obtain ⟨M1, e1, t1, f1⟩ := c_seen (so := so) (v := v) (b := b) hW st se
  have W1 := f1.2 hW
  have hM1 := IM_C f1 (fun c j z => by omega) hM
  have hs1 := SC_F f1 (fun j z => by omega) hs
  obtain ⟨y1, y2, y3, y4, y5, y6, y7, y8, y9⟩ := id hC
  have hC1 : IC M1 tp ap lim S P im LL h PL hv (if seenA ap L so v = true then L ++ [(so, v, b)] else L) := ⟨TC_Fw f1 (fun c j z => by omega) y1, DrC_Fw f1 (fun c j z => by omega) y2, StC_Fw f1 (fun c j x y => by omega) y3, PaC_Fw f1 (fun c j z => by omega) y4, ImC_Fw f1 (fun c j z => by omega) y5, LbC_Fw f1 (fun c j z => by omega) y6, PlC_Fw f1 (fun c j z => by omega) y7, (f1.I (by omega)).trans y8, t1⟩
  have rs : RS M1 ap lm S P := ⟨W1, hM1.2.1, hM1.2.2.1, hM1.2.2.2.1.1, hM1.2.2.2.1.2, hO.2.2.2.2.1.1, hO.2.2.1, st.2.2.2.2.2.2.2.2⟩
  obtain ⟨M2, e2, t2, f2⟩ := m_seen (so := so) (v := v) (b := b) rs hM1.2.2.2.2.2.2.2.2
  obtain ⟨z1, z2, z3, ⟨z4, z4'⟩, z5, z6, z7, z8, z9⟩ := hM1
  exact ⟨_, M1, M2, fun Q => e1 38 Q, fun Q => e2 37 Q, hs1, f2.2 W1, SC_F f2 (fun j z => by omega) hs1, tp, ap, lim, lm, S, P, im, LL, h, PL, hv, _, IC_M f2 (fun c j z => by omega) hC1, ⟨TM_Fw f2 (fun c j z => by omega) z1, StM_Fw f2 (fun j => by omega) z2, PaM_Fw f2 (fun j => by omega) (by omega) z3, ⟨(f2.I (by omega)).trans z4, (f2.I (by omega)).trans z4'⟩, ImM_Fw f2 (fun c j z => by omega) z5, LbM_Fw f2 (fun c j z => by omega) z6, PlM_Fw f2 (fun c j z => by omega) z7, (f2.I (by omega)).trans z8, t2⟩, hO⟩
theorem B_image (hI : IV sc M) : BB sc M mX10_image mX11_image [] := by
  obtain ⟨hW, hs, tp, ap, lim, lm, S, P, im, LL, h, PL, hv, L, hC, hM, hO⟩ := hI
  obtain ⟨tc, dr, st, pa, ic, lb, pc, hh, se⟩ := id hC
  obtain ⟨M1, e1, s1, i1, f1⟩ := c_image hW st ic
  have W1 := f1.2 hW
  have hM1 := IM_C f1 (fun c j z => by omega) hM
  have hs1 := SC_F f1 (fun j z => by omega) hs
  obtain ⟨y1, y2, y3, y4, y5, y6, y7, y8, y9⟩ := id hC
  have hC1 : IC M1 tp ap lim S P (if opn ap = true then some S else im) LL h PL hv L := ⟨TC_Fw f1 (fun c j z => by omega) y1, DrC_Fw f1 (fun c j z => by omega) y2, s1, PaC_Fw f1 (fun c j z => by omega) y4, i1, LbC_Fw f1 (fun c j z => by omega) y6, PlC_Fw f1 (fun c j z => by omega) y7, (f1.I (by omega)).trans y8, SeC_Fw f1 (fun c j z => by omega) y9⟩
  have rs : RS M1 ap lm S P := ⟨W1, hM1.2.1, hM1.2.2.1, hM1.2.2.2.1.1, hM1.2.2.2.1.2, hO.2.2.2.2.1.1, hO.2.2.1, st.2.2.2.2.2.2.2.2⟩
  obtain ⟨M2, e2, s2, p2, i2, f2⟩ := m_image rs hM1.2.2.2.2.1
  obtain ⟨z1, z2, z3, ⟨z4, z4'⟩, z5, z6, z7, z8, z9⟩ := hM1
  refine ⟨_, M1, M2, fun Q => e1 37 Q, fun Q => e2 39 Q, hs1, f2.2 W1, SC_F f2 (fun j z => by unfold XI XM XS at z; omega) hs1, tp, ap, lim, lm, S, P, _, LL, h, PL, hv, L, IC_M f2 (fun c j z => by unfold XI XM XS at z; omega) hC1, ⟨TM_Fw f2 (fun c j z => by unfold XI XM XS; omega) z1, s2, p2, ⟨(f2.I (by unfold XI XM XS; omega)).trans z4, (f2.I (by unfold XI XM XS; omega)).trans z4'⟩, i2, LbM_Fw f2 (fun c j z => by unfold XI XM XS; omega) z6, PlM_Fw f2 (fun c j z => by unfold XI XM XS; omega) z7, (f2.I (by unfold XI XM XS; omega)).trans z8, SeM_Fw f2 (fun c j z => by unfold XI XM XS; omega) z9⟩, ⟨hO.1, hO.2.1, hO.2.2.1, hO.2.2.2.1, hO.2.2.2.2.1, hO.2.2.2.2.2.1, fun I e => ?_⟩⟩
  split at e
  · cases e; exact hO.2.2.2.2.1
  · exact hO.2.2.2.2.2.2 I e
theorem B_back (hI : IV sc M) : BB sc M mX10_back mX11_back [] := by
  obtain ⟨hW, hs, tp, ap, lim, lm, S, P, im, LL, h, PL, hv, L, hC, hM, hO⟩ := hI
  obtain ⟨tc, dr, st, pa, ic, lb, pc, hh, se⟩ := id hC
  obtain ⟨M1, e1, s1, p1, i1, f1⟩ := c_back hW st pa ic
  obtain ⟨W1, hs1, hC1, hM1, rs⟩ := C_act hW hs hC hM hO (f1.mo (fun c j z => Or.inl z)) s1 p1
  obtain ⟨M2, e2, s2, p2, i2, f2⟩ := m_back rs hM1.2.2.2.2.1
  obtain ⟨z1, z2, z3, ⟨z4, z4'⟩, z5, z6, z7, z8, z9⟩ := hM1
  refine ⟨_, M1, M2, fun Q => e1 37 Q, fun Q => e2 39 Q, hs1, f2.2 W1, SC_F f2 (fun j z => by unfold XI XM XS at z; omega) hs1, tp, ap, lim, lm, _, _, im, LL, h, PL, hv, L, IC_M f2 (fun c j z => by unfold XI XM XS at z; omega) hC1, ⟨TM_Fw f2 (fun c j z => by unfold XI XM XS; omega) z1, s2, p2, ⟨(f2.I (by unfold XI XM XS; omega)).trans z4, (f2.I (by unfold XI XM XS; omega)).trans z4'⟩, i2, LbM_Fw f2 (fun c j z => by unfold XI XM XS; omega) z6, PlM_Fw f2 (fun c j z => by unfold XI XM XS; omega) z7, (f2.I (by unfold XI XM XS; omega)).trans z8, SeM_Fw f2 (fun c j z => by unfold XI XM XS; omega) z9⟩, OKs_act hO ?_ (fun p hp => ?_)⟩
  · cases im with
    | none => exact hO.2.2.2.2.1
    | some I => exact hO.2.2.2.2.2.2 I rfl
  · split at hp
    · cases hp
    · exact hO.2.2.2.2.2.1 p hp
end
