section
variable {M N : am_M} {sc : Nat → Int32}
theorem B_deed {y : Int32} {w : Int32} (hI : IV sc M) : BB sc M mX10_deed mX11_deed [.int y, .int w] := by
  obtain ⟨hW, hs, tp, ap, lim, lm, S, P, im, LL, h, PL, hv, L, hC, hM, hO⟩ := hI
  obtain ⟨tc, dr, st, pa, ic, lb, pc, hh, se⟩ := id hC
  have hl : S.1.length ≤ 12 := hM.2.1.1
  have hw : WFl S.1 := hO.2.2.2.2.1.1
  have ht : S.2.2.2.1 ≤ 9999 := st.2.2.2.2.2.2.2.2
  have hlim := hO.2.1
  have e1 := fun (Q : am_Q) => c_deed (d := 37) (Q := Q) (y := y) (w := w) hW st
  have W1 := hW
  have hC1 := hC
  have hM1 := hM
  have hs1 := hs
  have rs := RS_of W1 hC1 hM1 hO
  have e2 := fun (Q : am_Q) => m_deed (d := 37) (Q := Q) (y := y) (w := w) rs
  exact ⟨_, M, _, e1, e2, hs1, IV_th W1 hs1 hC1 hM1 hO⟩
theorem B_upon {y : Int32} (hI : IV sc M) : BB sc M mX10_upon mX11_upon [.int y] := by
  obtain ⟨hW, hs, tp, ap, lim, lm, S, P, im, LL, h, PL, hv, L, hC, hM, hO⟩ := hI
  obtain ⟨tc, dr, st, pa, ic, lb, pc, hh, se⟩ := id hC
  have hl : S.1.length ≤ 12 := hM.2.1.1
  have hw : WFl S.1 := hO.2.2.2.2.1.1
  have ht : S.2.2.2.1 ≤ 9999 := st.2.2.2.2.2.2.2.2
  have hlim := hO.2.1
  have e1 := fun (Q : am_Q) => c_upon (d := 37) (Q := Q) (y := y) hW st
  have W1 := hW
  have hC1 := hC
  have hM1 := hM
  have hs1 := hs
  have rs := RS_of W1 hC1 hM1 hO
  obtain ⟨M2, e2, f2⟩ := m_upon (y := y) rs
  exact ⟨_, M, M2, e1, fun Q => e2 36 Q, hs1, IV_q W1 hs1 hC1 hM1 hO f2 (fun c j w => by unfold XMr XS at w; unfold KM0 KML; omega)⟩
theorem B_log {y : Int32} {w : Int32} (hI : IV sc M) : BB sc M mX10_log mX11_log [.int y, .int w] := by
  obtain ⟨hW, hs, tp, ap, lim, lm, S, P, im, LL, h, PL, hv, L, hC, hM, hO⟩ := hI
  obtain ⟨tc, dr, st, pa, ic, lb, pc, hh, se⟩ := id hC
  have hl : S.1.length ≤ 12 := hM.2.1.1
  have hw : WFl S.1 := hO.2.2.2.2.1.1
  have ht : S.2.2.2.1 ≤ 9999 := st.2.2.2.2.2.2.2.2
  have hlim := hO.2.1
  have e1 := fun (Q : am_Q) => c_log (d := 38) (Q := Q) (y := y) (w := w) hW st
  have W1 := hW
  have hC1 := hC
  have hM1 := hM
  have hs1 := hs
  have rs := RS_of W1 hC1 hM1 hO
  have e2 := fun (Q : am_Q) => m_log (d := 38) (Q := Q) (y := y) (w := w) rs
  exact ⟨_, M, _, e1, e2, hs1, IV_th W1 hs1 hC1 hM1 hO⟩
theorem B_step {k : Int32} {y : Int32} {w : Int32} (hI : IV sc M) : BB sc M mX10_step mX11_step [.int k, .int y, .int w] := by
  obtain ⟨hW, hs, tp, ap, lim, lm, S, P, im, LL, h, PL, hv, L, hC, hM, hO⟩ := hI
  obtain ⟨tc, dr, st, pa, ic, lb, pc, hh, se⟩ := id hC
  have hl : S.1.length ≤ 12 := hM.2.1.1
  have hw : WFl S.1 := hO.2.2.2.2.1.1
  have ht : S.2.2.2.1 ≤ 9999 := st.2.2.2.2.2.2.2.2
  have hlim := hO.2.1
  have e1 := fun (Q : am_Q) => c_step (d := 37) (Q := Q) (k := k) (y := y) (w := w) hW pc
  have W1 := hW
  have hC1 := hC
  have hM1 := hM
  have hs1 := hs
  have rs := RS_of W1 hC1 hM1 hO
  have e2 := fun (Q : am_Q) => m_step (d := 38) (Q := Q) (k := k) (y := y) (w := w) W1 (PlM_Fw (X := fun c j => c = 457 ∧ j = 0) (Fw.s ⟨rfl, rfl⟩) (fun c j z w => by omega) hM1.2.2.2.2.2.2.1)
  exact ⟨_, M, _, e1, e2, hs1, IV_th W1 hs1 hC1 hM1 hO⟩
theorem B_lesson {y : Int32} (hI : IV sc M) : BB sc M mX10_lesson mX11_lesson [.int y] := by
  obtain ⟨hW, hs, tp, ap, lim, lm, S, P, im, LL, h, PL, hv, L, hC, hM, hO⟩ := hI
  obtain ⟨tc, dr, st, pa, ic, lb, pc, hh, se⟩ := id hC
  have hl : S.1.length ≤ 12 := hM.2.1.1
  have hw : WFl S.1 := hO.2.2.2.2.1.1
  have ht : S.2.2.2.1 ≤ 9999 := st.2.2.2.2.2.2.2.2
  have hlim := hO.2.1
  have e1 := fun (Q : am_Q) => c_lesson (d := 38) (Q := Q) (y := y) hW st
  have W1 := hW
  have hC1 := hC
  have hM1 := hM
  have hs1 := hs
  have rs := RS_of W1 hC1 hM1 hO
  have e2 := fun (Q : am_Q) => m_lesson (d := 38) (Q := Q) (y := y) rs
  exact ⟨_, M, _, e1, e2, hs1, IV_th W1 hs1 hC1 hM1 hO⟩
theorem B_shape {y : Int32} {v : Int32} (hI : IV sc M) : BB sc M mX10_shape mX11_shape [.int y, .int v] := by
  obtain ⟨hW, hs, tp, ap, lim, lm, S, P, im, LL, h, PL, hv, L, hC, hM, hO⟩ := hI
  obtain ⟨tc, dr, st, pa, ic, lb, pc, hh, se⟩ := id hC
  have hl : S.1.length ≤ 12 := hM.2.1.1
  have hw : WFl S.1 := hO.2.2.2.2.1.1
  have ht : S.2.2.2.1 ≤ 9999 := st.2.2.2.2.2.2.2.2
  have hlim := hO.2.1
  have e1 := fun (Q : am_Q) => c_shape (d := 37) (Q := Q) (y := y) (v := v) hW st
  have W1 := hW
  have hC1 := hC
  have hM1 := hM
  have hs1 := hs
  have rs := RS_of W1 hC1 hM1 hO
  obtain ⟨M2, e2, f2⟩ := m_shape (y := y) (v := v) rs hO.2.2.2.2.1.2
  exact ⟨_, M, M2, e1, fun Q => e2 36 Q, hs1, IV_q W1 hs1 hC1 hM1 hO f2 (fun c j w => by unfold XMr XS at w; unfold KM0 KML; omega)⟩
theorem B_needs {y : Int32} {v : Int32} (hI : IV sc M) : BB sc M mX10_needs mX11_needs [.int y, .int v] := by
  obtain ⟨hW, hs, tp, ap, lim, lm, S, P, im, LL, h, PL, hv, L, hC, hM, hO⟩ := hI
  obtain ⟨tc, dr, st, pa, ic, lb, pc, hh, se⟩ := id hC
  have hl : S.1.length ≤ 12 := hM.2.1.1
  have hw : WFl S.1 := hO.2.2.2.2.1.1
  have ht : S.2.2.2.1 ≤ 9999 := st.2.2.2.2.2.2.2.2
  have hlim := hO.2.1
  obtain ⟨M1, e1, f1⟩ := c_needs (y := y) (v := v) hW st hl
  obtain ⟨W1, hs1, hC1, hM1⟩ := C_q hW hs hC hM f1 (fun c j w => by unfold XL at w; unfold KC; omega)
  have rs := RS_of W1 hC1 hM1 hO
  obtain ⟨M2, e2, f2⟩ := m_needs (y := y) (v := v) rs
  exact ⟨_, M1, M2, fun Q => e1 37 Q, fun Q => e2 37 Q, hs1, IV_q W1 hs1 hC1 hM1 hO f2 (fun c j w => by unfold XMN XMr XS XN at w; unfold KM0 KML; omega)⟩
theorem B_places {y : Int32} {v : Int32} (hI : IV sc M) : BB sc M mX10_places mX11_places [.int y, .int v] := by
  obtain ⟨hW, hs, tp, ap, lim, lm, S, P, im, LL, h, PL, hv, L, hC, hM, hO⟩ := hI
  obtain ⟨tc, dr, st, pa, ic, lb, pc, hh, se⟩ := id hC
  have hl : S.1.length ≤ 12 := hM.2.1.1
  have hw : WFl S.1 := hO.2.2.2.2.1.1
  have ht : S.2.2.2.1 ≤ 9999 := st.2.2.2.2.2.2.2.2
  have hlim := hO.2.1
  obtain ⟨M1, e1, f1⟩ := c_places (y := y) (v := v) hW st hl
  obtain ⟨W1, hs1, hC1, hM1⟩ := C_q hW hs hC hM f1 (fun c j w => by unfold XL at w; unfold KC; omega)
  have rs := RS_of W1 hC1 hM1 hO
  obtain ⟨M2, e2, f2⟩ := m_places (y := y) (v := v) rs
  exact ⟨_, M1, M2, fun Q => e1 37 Q, fun Q => e2 37 Q, hs1, IV_q W1 hs1 hC1 hM1 hO f2 (fun c j w => by unfold XMN XMr XS XN at w; unfold KM0 KML; omega)⟩
theorem B_sure {y : Int32} {v : Int32} (hI : IV sc M) : BB sc M mX10_sure mX11_sure [.int y, .int v] := by
  obtain ⟨hW, hs, tp, ap, lim, lm, S, P, im, LL, h, PL, hv, L, hC, hM, hO⟩ := hI
  obtain ⟨tc, dr, st, pa, ic, lb, pc, hh, se⟩ := id hC
  have hl : S.1.length ≤ 12 := hM.2.1.1
  have hw : WFl S.1 := hO.2.2.2.2.1.1
  have ht : S.2.2.2.1 ≤ 9999 := st.2.2.2.2.2.2.2.2
  have hlim := hO.2.1
  obtain ⟨M1, e1, f1⟩ := c_sure (y := y) (v := v) hW st hl
  obtain ⟨W1, hs1, hC1, hM1⟩ := C_q hW hs hC hM f1 (fun c j w => by unfold XL at w; unfold KC; omega)
  have rs := RS_of W1 hC1 hM1 hO
  obtain ⟨M2, e2, f2⟩ := m_sure (y := y) (v := v) rs
  exact ⟨_, M1, M2, fun Q => e1 37 Q, fun Q => e2 37 Q, hs1, IV_q W1 hs1 hC1 hM1 hO f2 (fun c j w => by unfold XMN XMr XS XN at w; unfold KM0 KML; omega)⟩
theorem B_stuck {x : Int32} (hI : IV sc M) : BB sc M mX10_stuck mX11_stuck [.int x] := by
  obtain ⟨hW, hs, tp, ap, lim, lm, S, P, im, LL, h, PL, hv, L, hC, hM, hO⟩ := hI
  obtain ⟨tc, dr, st, pa, ic, lb, pc, hh, se⟩ := id hC
  have hl : S.1.length ≤ 12 := hM.2.1.1
  have hw : WFl S.1 := hO.2.2.2.2.1.1
  have ht : S.2.2.2.1 ≤ 9999 := st.2.2.2.2.2.2.2.2
  have hlim := hO.2.1
  obtain ⟨M1, e1, f1⟩ := c_stuck (x := x) hW st hl
  obtain ⟨W1, hs1, hC1, hM1⟩ := C_q hW hs hC hM f1 (fun c j w => by unfold XL at w; unfold KC; omega)
  have rs := RS_of W1 hC1 hM1 hO
  obtain ⟨M2, e2, f2⟩ := m_stuck (x := x) rs
  exact ⟨_, M1, M2, fun Q => e1 37 Q, fun Q => e2 36 Q, hs1, IV_q W1 hs1 hC1 hM1 hO f2 (fun c j w => by unfold XMN XMr XS XN at w; unfold KM0 KML; omega)⟩
theorem B_alone {x : Int32} (hI : IV sc M) : BB sc M mX10_alone mX11_alone [.int x] := by
  obtain ⟨hW, hs, tp, ap, lim, lm, S, P, im, LL, h, PL, hv, L, hC, hM, hO⟩ := hI
  obtain ⟨tc, dr, st, pa, ic, lb, pc, hh, se⟩ := id hC
  have hl : S.1.length ≤ 12 := hM.2.1.1
  have hw : WFl S.1 := hO.2.2.2.2.1.1
  have ht : S.2.2.2.1 ≤ 9999 := st.2.2.2.2.2.2.2.2
  have hlim := hO.2.1
  obtain ⟨M1, e1, f1⟩ := c_alone (x := x) hW st hl
  obtain ⟨W1, hs1, hC1, hM1⟩ := C_q hW hs hC hM f1 (fun c j w => by unfold XL at w; unfold KC; omega)
  have rs := RS_of W1 hC1 hM1 hO
  obtain ⟨M2, e2, f2⟩ := m_alone (x := x) rs
  exact ⟨_, M1, M2, fun Q => e1 36 Q, fun Q => e2 35 Q, hs1, IV_q W1 hs1 hC1 hM1 hO f2 (fun c j w => by unfold XMN XMr XS XN at w; unfold KM0 KML; omega)⟩
theorem B_team  (hI : IV sc M) : BB sc M mX10_team mX11_team [] := by
  obtain ⟨hW, hs, tp, ap, lim, lm, S, P, im, LL, h, PL, hv, L, hC, hM, hO⟩ := hI
  obtain ⟨tc, dr, st, pa, ic, lb, pc, hh, se⟩ := id hC
  have hl : S.1.length ≤ 12 := hM.2.1.1
  have hw : WFl S.1 := hO.2.2.2.2.1.1
  have ht : S.2.2.2.1 ≤ 9999 := st.2.2.2.2.2.2.2.2
  have hlim := hO.2.1
  obtain ⟨M1, e1, f1⟩ := c_team  hW st hl hw
  obtain ⟨W1, hs1, hC1, hM1⟩ := C_q hW hs hC hM f1 (fun c j w => by unfold XL at w; unfold KC; omega)
  have rs := RS_of W1 hC1 hM1 hO
  obtain ⟨M2, e2, f2⟩ := m_team  rs
  exact ⟨_, M1, M2, fun Q => e1 36 Q, fun Q => e2 35 Q, hs1, IV_q W1 hs1 hC1 hM1 hO f2 (fun c j w => by unfold XMN XMr XS XN at w; unfold KM0 KML; omega)⟩
theorem B_odds {y : Int32} {v : Int32} (hI : IV sc M) : BB sc M mX10_odds mX11_odds [.int y, .int v] := by
  obtain ⟨hW, hs, tp, ap, lim, lm, S, P, im, LL, h, PL, hv, L, hC, hM, hO⟩ := hI
  obtain ⟨tc, dr, st, pa, ic, lb, pc, hh, se⟩ := id hC
  have hl : S.1.length ≤ 12 := hM.2.1.1
  have hw : WFl S.1 := hO.2.2.2.2.1.1
  have ht : S.2.2.2.1 ≤ 9999 := st.2.2.2.2.2.2.2.2
  have hlim := hO.2.1
  obtain ⟨M1, e1, f1⟩ := c_odds (y := y) (v := v) hW st hl
  obtain ⟨W1, hs1, hC1, hM1⟩ := C_q hW hs hC hM f1 (fun c j w => by unfold XL at w; unfold KC; omega)
  have rs := RS_of W1 hC1 hM1 hO
  obtain ⟨M2, e2, f2⟩ := m_odds (y := y) (v := v) rs
  exact ⟨_, M1, M2, fun Q => e1 35 Q, fun Q => e2 35 Q, hs1, IV_q W1 hs1 hC1 hM1 hO f2 (fun c j w => by unfold XMN XMr XS XN at w; unfold KM0 KML; omega)⟩
theorem B_all {v : Int32} (hI : IV sc M) : BB sc M mX10_all mX11_all [.int v] := by
  obtain ⟨hW, hs, tp, ap, lim, lm, S, P, im, LL, h, PL, hv, L, hC, hM, hO⟩ := hI
  obtain ⟨tc, dr, st, pa, ic, lb, pc, hh, se⟩ := id hC
  have hl : S.1.length ≤ 12 := hM.2.1.1
  have hw : WFl S.1 := hO.2.2.2.2.1.1
  have ht : S.2.2.2.1 ≤ 9999 := st.2.2.2.2.2.2.2.2
  have hlim := hO.2.1
  obtain ⟨M1, e1, f1⟩ := c_all (v := v) hW st hl hM.2.1.2.2.2.2.1.2.1
  obtain ⟨W1, hs1, hC1, hM1⟩ := C_q hW hs hC hM f1 (fun c j w => by unfold XL at w; unfold KC; omega)
  have rs := RS_of W1 hC1 hM1 hO
  obtain ⟨M2, e2, f2⟩ := m_all (v := v) rs
  exact ⟨_, M1, M2, fun Q => e1 35 Q, fun Q => e2 36 Q, hs1, IV_q W1 hs1 hC1 hM1 hO f2 (fun c j w => by unfold XMN XMr XS XN at w; unfold KM0 KML; omega)⟩
end
