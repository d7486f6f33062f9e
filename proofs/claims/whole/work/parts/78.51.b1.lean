section
variable {M N : am_M} {sc : Nat → Int32}
theorem C_q {X : Nat → Nat → Prop} {tp : List Nat} {ap lim lm : Nat} {S : Sg} {P : List Sg} {im : Option Sg} {LL : List (List Nat)} {h : Int32} {PL : List (List Dd)} {hv : Int32} {L : List Sn} (hW : WR M) (hs : ∀ j, gI M 2000000 j = sc j) (hC : IC M tp ap lim S P im LL h PL hv L) (hM : IM M tp ap lm S P im LL h PL hv L) (f : Fw X M N) (hX : ∀ c j, X c j → c < 457 ∧ ¬ KC c j) : WR N ∧ (∀ j, gI N 2000000 j = sc j) ∧ IC N tp ap lim S P im LL h PL hv L ∧ IM N tp ap lm S P im LL h PL hv L :=
  ⟨f.2 hW, SC_F f (fun j w => by have := (hX _ _ w).1; omega) hs, IC_K f (fun c j z w => (hX c j w).2 z) hC, IM_C f (fun c j w => (hX c j w).1) hM⟩
theorem IV_q {X : Nat → Nat → Prop} {tp : List Nat} {ap lim lm : Nat} {S : Sg} {P : List Sg} {im : Option Sg} {LL : List (List Nat)} {h : Int32} {PL : List (List Dd)} {hv : Int32} {L : List Sn} (hW : WR M) (hs : ∀ j, gI M 2000000 j = sc j) (hC : IC M tp ap lim S P im LL h PL hv L) (hM : IM M tp ap lm S P im LL h PL hv L) (hO : OKs tp ap lim lm S P im) (f : Fw X M N) (hX : ∀ c j, X c j → 457 ≤ c ∧ c ≤ 486 ∧ ¬ (KM0 c j ∨ KML c j)) : IV sc N :=
  ⟨f.2 hW, SC_F f (fun j w => by have := (hX _ _ w).2.1; omega) hs, tp, ap, lim, lm, S, P, im, LL, h, PL, hv, L, IC_M f (fun c j w => (hX c j w).1) hC, IM_K f (fun c j z w => (hX c j w).2.2 z) hM, hO⟩
theorem IV_qL {X : Nat → Nat → Prop} {tp : List Nat} {ap lim lm : Nat} {S : Sg} {P : List Sg} {im : Option Sg} {LL : List (List Nat)} {h : Int32} {PL : List (List Dd)} {hv : Int32} {L : List Sn} (hW : WR M) (hs : ∀ j, gI M 2000000 j = sc j) (hC : IC M tp ap lim S P im LL h PL hv L) (hM : IM M tp ap lm S P im LL h PL hv L) (hO : OKs tp ap lim lm S P im) (f : Fw X M N) (hX : ∀ c j, X c j → 457 ≤ c ∧ c ≤ 486 ∧ ¬ KM0 c j) (lb : LbM N LL h) : IV sc N :=
  ⟨f.2 hW, SC_F f (fun j w => by have := (hX _ _ w).2.1; omega) hs, tp, ap, lim, lm, S, P, im, LL, h, PL, hv, L, IC_M f (fun c j w => (hX c j w).1) hC, IM_KL f (fun c j z w => (hX c j w).2.2 z) lb hM, hO⟩
theorem IV_th {tp : List Nat} {ap lim lm : Nat} {S : Sg} {P : List Sg} {im : Option Sg} {LL : List (List Nat)} {h : Int32} {PL : List (List Dd)} {hv : Int32} {L : List Sn} (hW : WR M) (hs : ∀ j, gI M 2000000 j = sc j) (hC : IC M tp ap lim S P im LL h PL hv L) (hM : IM M tp ap lm S P im LL h PL hv L) (hO : OKs tp ap lim lm S P im) : IV sc (sI M 457 0 0) :=
  IV_q (X := fun c j => c = 457 ∧ j = 0) hW hs hC hM hO (Fw.s ⟨rfl, rfl⟩) (fun c j w => by unfold KM0 KML; omega)
theorem C_act {tp : List Nat} {ap lim lm : Nat} {S S' : Sg} {P P' : List Sg} {im : Option Sg} {LL : List (List Nat)} {h : Int32} {PL : List (List Dd)} {hv : Int32} {L : List Sn} (hW : WR M) (hs : ∀ j, gI M 2000000 j = sc j) (hC : IC M tp ap lim S P im LL h PL hv L) (hM : IM M tp ap lm S P im LL h PL hv L) (hO : OKs tp ap lim lm S P im) (f : Fw XY M N) (s1 : StC N 3 ap lim S') (p1 : PaC N ap lim P') : WR N ∧ (∀ j, gI N 2000000 j = sc j) ∧ IC N tp ap lim S' P' im LL h PL hv L ∧ IM N tp ap lm S P im LL h PL hv L ∧ RS N ap lm S P := by
  have hM1 := IM_C f XA_C hM
  exact ⟨f.2 hW, SC_F f (fun j w => by have := XA_C _ _ w; omega) hs, IC_act f s1 p1 hC, hM1, ⟨f.2 hW, hM1.2.1, hM1.2.2.1, hM1.2.2.2.1.1, hM1.2.2.2.1.2, hO.2.2.2.2.1.1, hO.2.2.1, hC.2.2.1.2.2.2.2.2.2.2.2⟩⟩
theorem IV_act {tp : List Nat} {ap lim lm : Nat} {S S' : Sg} {P P' : List Sg} {im : Option Sg} {LL : List (List Nat)} {h : Int32} {PL : List (List Dd)} {hv : Int32} {L : List Sn} (hW : WR M) (hs : ∀ j, gI M 2000000 j = sc j) (hC : IC M tp ap lim S' P' im LL h PL hv L) (hM : IM M tp ap lm S P im LL h PL hv L) (f : Fw XMY M N) (s2 : StM N 465 0 ap S') (p2 : PaM N ap P') (hO : OKs tp ap lim lm S' P' im) : IV sc N :=
  ⟨f.2 hW, SC_F f (fun j w => by unfold XMY XM XS at w; omega) hs, tp, ap, lim, lm, S', P', im, LL, h, PL, hv, L, IC_M f XMY_M hC, IM_act f s2 p2 hM, hO⟩
theorem B_make {so : Int32} {pa : Int32} {x : Int32} (hI : IV sc M) : BB sc M mX10_make mX11_make [.int so, .int pa, .int x] := by
  obtain ⟨hW, hs, tp, ap, lim, lm, S, P, im, LL, h, PL, hv, L, hC, hM, hO⟩ := hI
  obtain ⟨tc, dr, st, pa', ic, lb, pc, hh, se⟩ := id hC
  have hl : S.1.length ≤ 12 := hM.2.1.1
  have hw : WFl S.1 := hO.2.2.2.2.1.1
  have ht : S.2.2.2.1 ≤ 9999 := st.2.2.2.2.2.2.2.2
  have hlim := hO.2.1
  obtain ⟨M1, e1, s1, p1, f1⟩ := c_make (so := so) (pa := pa) (x := x) hW hlim pa' st
  obtain ⟨W1, hs1, hC1, hM1, rs⟩ := C_act hW hs hC hM hO (f1.mo (fun c j z => Or.inl z)) s1 p1
  obtain ⟨M2, e2, s2, p2, f2⟩ := m_make (so := so) (pa := pa) (x := x) rs
  rw [mkA_l hO.2.2.2.1] at e2 s2 p2
  exact ⟨_, M1, M2, fun Q => e1 34 Q, fun Q => e2 35 Q, hs1, IV_act W1 hs1 hC1 hM1 (f2.mo (fun c j z => Or.inl z)) s2 p2 (OKs_if hO (fun c => SgP_mk hO.2.2.2.2.1 c))⟩
theorem B_undoes {y : Int32} (hI : IV sc M) : BB sc M mX10_undoes mX11_undoes [.int y] := by
  obtain ⟨hW, hs, tp, ap, lim, lm, S, P, im, LL, h, PL, hv, L, hC, hM, hO⟩ := hI
  obtain ⟨tc, dr, st, pa, ic, lb, pc, hh, se⟩ := id hC
  have hl : S.1.length ≤ 12 := hM.2.1.1
  have hw : WFl S.1 := hO.2.2.2.2.1.1
  have ht : S.2.2.2.1 ≤ 9999 := st.2.2.2.2.2.2.2.2
  have hlim := hO.2.1
  obtain ⟨M1, e1, s1, p1, f1⟩ := c_undoes (y := y) hW pa st
  obtain ⟨W1, hs1, hC1, hM1, rs⟩ := C_act hW hs hC hM hO (f1.mo (fun c j z => Or.inl z)) s1 p1
  obtain ⟨M2, e2, s2, p2, f2⟩ := m_undoes (y := y) rs
  exact ⟨_, M1, M2, fun Q => e1 35 Q, fun Q => e2 36 Q, hs1, IV_act W1 hs1 hC1 hM1 (f2.mo (fun c j z => Or.inl z)) s2 p2 (OKs_if hO (fun c => SgP_tkA hO.2.2.2.2.1 c.2))⟩
theorem B_takes {ya : Int32} {y : Int32} (hI : IV sc M) : BB sc M mX10_takes mX11_takes_ [.int ya, .int y] := by
  obtain ⟨hW, hs, tp, ap, lim, lm, S, P, im, LL, h, PL, hv, L, hC, hM, hO⟩ := hI
  obtain ⟨tc, dr, st, pa, ic, lb, pc, hh, se⟩ := id hC
  have hl : S.1.length ≤ 12 := hM.2.1.1
  have hw : WFl S.1 := hO.2.2.2.2.1.1
  have ht : S.2.2.2.1 ≤ 9999 := st.2.2.2.2.2.2.2.2
  have hlim := hO.2.1
  obtain ⟨M1, e1, s1, p1, f1⟩ := c_takes (ya := ya) (y := y) hW pa st
  obtain ⟨W1, hs1, hC1, hM1, rs⟩ := C_act hW hs hC hM hO (f1.mo (fun c j z => Or.inl z)) s1 p1
  obtain ⟨M2, e2, s2, p2, f2⟩ := m_takesA (ya := ya) (y := y) rs
  exact ⟨_, M1, M2, fun Q => e1 34 Q, fun Q => e2 36 Q, hs1, IV_act W1 hs1 hC1 hM1 (f2.mo (fun c j z => Or.inl z)) s2 p2 (OKs_if hO (fun c => SgP_tkA hO.2.2.2.2.1 c.2))⟩
theorem B_enter {y : Int32} (hI : IV sc M) : BB sc M mX10_enter mX11_enter [.int y] := by
  obtain ⟨hW, hs, tp, ap, lim, lm, S, P, im, LL, h, PL, hv, L, hC, hM, hO⟩ := hI
  obtain ⟨tc, dr, st, pa, ic, lb, pc, hh, se⟩ := id hC
  have hl : S.1.length ≤ 12 := hM.2.1.1
  have hw : WFl S.1 := hO.2.2.2.2.1.1
  have ht : S.2.2.2.1 ≤ 9999 := st.2.2.2.2.2.2.2.2
  have hlim := hO.2.1
  obtain ⟨M1, e1, s1, p1, f1⟩ := c_enter (y := y) hW hM.2.1.2.2.2.2.1.2.1 pa st
  obtain ⟨W1, hs1, hC1, hM1, rs⟩ := C_act hW hs hC hM hO (f1.mo (fun c j z => Or.inl z)) s1 p1
  obtain ⟨M2, e2, s2, p2, f2⟩ := m_enter (y := y) rs
  exact ⟨_, M1, M2, fun Q => e1 35 Q, fun Q => e2 36 Q, hs1, IV_act W1 hs1 hC1 hM1 (f2.mo (fun c j z => Or.inl z)) s2 p2 (OKs_if hO (fun _ => ⟨hO.2.2.2.2.1.1, hO.2.2.2.2.1.2⟩))⟩
theorem B_forgets {y : Int32} {so : Int32} (hI : IV sc M) : BB sc M mX10_forgets mX11_forgets [.int y, .int so] := by
  obtain ⟨hW, hs, tp, ap, lim, lm, S, P, im, LL, h, PL, hv, L, hC, hM, hO⟩ := hI
  obtain ⟨tc, dr, st, pa, ic, lb, pc, hh, se⟩ := id hC
  have hl : S.1.length ≤ 12 := hM.2.1.1
  have hw : WFl S.1 := hO.2.2.2.2.1.1
  have ht : S.2.2.2.1 ≤ 9999 := st.2.2.2.2.2.2.2.2
  have hlim := hO.2.1
  obtain ⟨M1, e1, s1, p1, f1⟩ := c_forgets (y := y) (so := so) hW pa st
  obtain ⟨W1, hs1, hC1, hM1, rs⟩ := C_act hW hs hC hM hO (f1.mo (fun c j z => Or.inl z)) s1 p1
  obtain ⟨M2, e2, s2, p2, f2⟩ := m_forgets (y := y) (so := so) rs
  exact ⟨_, M1, M2, fun Q => e1 35 Q, fun Q => e2 36 Q, hs1, IV_act W1 hs1 hC1 hM1 (f2.mo (fun c j z => Or.inl z)) s2 p2 (OKs_if hO (fun _ => ⟨hO.2.2.2.2.1.1, hO.2.2.2.2.1.2⟩))⟩
theorem B_sell  (hI : IV sc M) : BB sc M mX10_sell mX11_sell [] := by
  obtain ⟨hW, hs, tp, ap, lim, lm, S, P, im, LL, h, PL, hv, L, hC, hM, hO⟩ := hI
  obtain ⟨tc, dr, st, pa, ic, lb, pc, hh, se⟩ := id hC
  have hl : S.1.length ≤ 12 := hM.2.1.1
  have hw : WFl S.1 := hO.2.2.2.2.1.1
  have ht : S.2.2.2.1 ≤ 9999 := st.2.2.2.2.2.2.2.2
  have hlim := hO.2.1
  obtain ⟨M1, e1, s1, p1, f1⟩ := c_sell  hW pa st
  obtain ⟨W1, hs1, hC1, hM1, rs⟩ := C_act hW hs hC hM hO (f1.mo (fun c j z => Or.inl z)) s1 p1
  obtain ⟨M2, e2, s2, p2, f2⟩ := m_sell  rs
  exact ⟨_, M1, M2, fun Q => e1 35 Q, fun Q => e2 36 Q, hs1, IV_act W1 hs1 hC1 hM1 (f2.mo (fun c j z => Or.inl z)) s2 p2 (OKs_if hO (fun _ => ⟨WF_nil, T3_nil⟩))⟩
theorem B_undo  (hI : IV sc M) : BB sc M mX10_undo mX11_undo [] := by
  obtain ⟨hW, hs, tp, ap, lim, lm, S, P, im, LL, h, PL, hv, L, hC, hM, hO⟩ := hI
  obtain ⟨tc, dr, st, pa, ic, lb, pc, hh, se⟩ := id hC
  have hl : S.1.length ≤ 12 := hM.2.1.1
  have hw : WFl S.1 := hO.2.2.2.2.1.1
  have ht : S.2.2.2.1 ≤ 9999 := st.2.2.2.2.2.2.2.2
  have hlim := hO.2.1
  obtain ⟨M1, e1, s1, p1, f1⟩ := c_undo  hW pa st
  obtain ⟨W1, hs1, hC1, hM1, rs⟩ := C_act hW hs hC hM hO (f1.mo (fun c j z => Or.inl z)) s1 p1
  obtain ⟨M2, e2, s2, p2, f2⟩ := m_undo  rs
  exact ⟨_, M1, M2, fun Q => e1 36 Q, fun Q => e2 39 Q, hs1, IV_act W1 hs1 hC1 hM1 (f2.mo (fun c j z => Or.inl z)) s2 p2 (OKs_undo hO)⟩
theorem B_perform {k : Int32} (hI : IV sc M) : BB sc M mX10_perform mX11_perform [.int k] := by
  obtain ⟨hW, hs, tp, ap, lim, lm, S, P, im, LL, h, PL, hv, L, hC, hM, hO⟩ := hI
  obtain ⟨tc, dr, st, pa, ic, lb, pc, hh, se⟩ := id hC
  have hl : S.1.length ≤ 12 := hM.2.1.1
  have hw : WFl S.1 := hO.2.2.2.2.1.1
  have ht : S.2.2.2.1 ≤ 9999 := st.2.2.2.2.2.2.2.2
  have hlim := hO.2.1
  obtain ⟨M1, e1, s1, p1, f1⟩ := c_perform (k := k) hW st hlim pa pc
  obtain ⟨W1, hs1, hC1, hM1, rs⟩ := C_act hW hs hC hM hO (f1.mo (fun c j z => Or.inl z)) s1 p1
  obtain ⟨M2, e2, s2, p2, f2⟩ := m_perform (k := k) rs hM1.2.2.2.2.2.2.1
  rw [perfA_l hO.2.2.2.1] at e2 s2 p2
  exact ⟨_, M1, M2, fun Q => e1 33 Q, fun Q => e2 35 Q, hs1, IV_act W1 hs1 hC1 hM1 (f2.mo (fun c j z => Or.inl z)) s2 p2 (OKs_perf hO)⟩
theorem B_years {n : Int32} {sd : Int64} (hI : IV sc M) : BB sc M mX10_years mX11_years [.int n, .long sd] := by
  obtain ⟨hW, hs, tp, ap, lim, lm, S, P, im, LL, h, PL, hv, L, hC, hM, hO⟩ := hI
  obtain ⟨tc, dr, st, pa, ic, lb, pc, hh, se⟩ := id hC
  have hl : S.1.length ≤ 12 := hM.2.1.1
  have hw : WFl S.1 := hO.2.2.2.2.1.1
  have ht : S.2.2.2.1 ≤ 9999 := st.2.2.2.2.2.2.2.2
  have hlim := hO.2.1
  obtain ⟨M1, e1, s1, p1, f1⟩ := c_years (n := n) (sd := sd) hW hlim hw hl pa st hh
  obtain ⟨W1, hs1, hC1, hM1, rs⟩ := C_act hW hs hC hM hO f1 s1 p1
  obtain ⟨M2, e2, s2, p2, f2⟩ := m_years (n := n) (sd := sd) rs hM1.2.2.2.2.2.2.2.1
  rw [yearsA_l hO.2.2.2.1] at e2 s2 p2
  exact ⟨_, M1, M2, fun Q => e1 34 Q, fun Q => e2 34 Q, hs1, IV_act W1 hs1 hC1 hM1 f2 s2 p2 (OKs_years hO)⟩
end
