section
variable {M N : am_M} {sc : Nat → Int32}
theorem B_rows  (hI : IV sc M) : BB sc M mX10_rows mX11_rows [] := by
  obtain ⟨hW, hs, tp, ap, lim, lm, S, P, im, LL, h, PL, hv, L, hC, hM, hO⟩ := hI
  obtain ⟨tc, dr, st, pa, ic, lb, pc, hh, se⟩ := id hC
  have hl : S.1.length ≤ 12 := hM.2.1.1
  have hw : WFl S.1 := hO.2.2.2.2.1.1
  have ht : S.2.2.2.1 ≤ 9999 := st.2.2.2.2.2.2.2.2
  have hlim := hO.2.1
  obtain ⟨M1, e1, f1⟩ := c_rows  hW st hl
  obtain ⟨W1, hs1, hC1, hM1⟩ := C_q hW hs hC hM f1 (fun c j w => by unfold XLW XL at w; unfold KC; omega)
  have rs := RS_of W1 hC1 hM1 hO
  obtain ⟨M2, e2, f2⟩ := m_rows  rs
  exact ⟨_, M1, M2, fun Q => e1 36 Q, fun Q => e2 36 Q, hs1, IV_q W1 hs1 hC1 hM1 hO f2 (fun c j w => by unfold XMW XMN XMr XS XN at w; unfold KM0 KML; omega)⟩
theorem B_row {i : Int32} {a : Int32} (hI : IV sc M) : BB sc M mX10_row mX11_row [.int i, .int a] := by
  obtain ⟨hW, hs, tp, ap, lim, lm, S, P, im, LL, h, PL, hv, L, hC, hM, hO⟩ := hI
  obtain ⟨tc, dr, st, pa, ic, lb, pc, hh, se⟩ := id hC
  have hl : S.1.length ≤ 12 := hM.2.1.1
  have hw : WFl S.1 := hO.2.2.2.2.1.1
  have ht : S.2.2.2.1 ≤ 9999 := st.2.2.2.2.2.2.2.2
  have hlim := hO.2.1
  obtain ⟨M1, e1, f1⟩ := c_row (i := i) (a := a) hW st hl
  obtain ⟨W1, hs1, hC1, hM1⟩ := C_q hW hs hC hM f1 (fun c j w => by unfold XLW XL at w; unfold KC; omega)
  have rs := RS_of W1 hC1 hM1 hO
  obtain ⟨M2, e2, f2⟩ := m_row (i := i) (a := a) rs
  exact ⟨_, M1, M2, fun Q => e1 36 Q, fun Q => e2 36 Q, hs1, IV_q W1 hs1 hC1 hM1 hO f2 (fun c j w => by unfold XMP XMW XMN XMr XS XN at w; unfold KM0 KML; omega)⟩
theorem B_drawn {sd : Int64} {a : Int32} (hI : IV sc M) : BB sc M mX10_drawn mX11_drawn [.long sd, .int a] := by
  obtain ⟨hW, hs, tp, ap, lim, lm, S, P, im, LL, h, PL, hv, L, hC, hM, hO⟩ := hI
  obtain ⟨tc, dr, st, pa, ic, lb, pc, hh, se⟩ := id hC
  have hl : S.1.length ≤ 12 := hM.2.1.1
  have hw : WFl S.1 := hO.2.2.2.2.1.1
  have ht : S.2.2.2.1 ≤ 9999 := st.2.2.2.2.2.2.2.2
  have hlim := hO.2.1
  obtain ⟨M1, e1, f1⟩ := c_drawn (sd := sd) (a := a) hW st hl
  obtain ⟨W1, hs1, hC1, hM1⟩ := C_q hW hs hC hM f1 (fun c j w => by unfold XLD XLW XL at w; unfold KC; omega)
  have rs := RS_of W1 hC1 hM1 hO
  obtain ⟨M2, e2, f2⟩ := m_drawn (sd := sd) (a := a) rs
  exact ⟨_, M1, M2, fun Q => e1 36 Q, fun Q => e2 36 Q, hs1, IV_q W1 hs1 hC1 hM1 hO f2 (fun c j w => by unfold XMD XMP XMW XMN XMr XS XN at w; unfold KM0 KML; omega)⟩
theorem B_cost {y : Int32} {n : Int32} {b : Int32} (hI : IV sc M) : BB sc M mX10_cost mX11_cost [.int y, .int n, .int b] := by
  obtain ⟨hW, hs, tp, ap, lim, lm, S, P, im, LL, h, PL, hv, L, hC, hM, hO⟩ := hI
  obtain ⟨tc, dr, st, pa, ic, lb, pc, hh, se⟩ := id hC
  have hl : S.1.length ≤ 12 := hM.2.1.1
  have hw : WFl S.1 := hO.2.2.2.2.1.1
  have ht : S.2.2.2.1 ≤ 9999 := st.2.2.2.2.2.2.2.2
  have hlim := hO.2.1
  obtain ⟨M1, e1, f1⟩ := c_cost (y := y) (n := n) (b := b) hW st hl hw lb
  obtain ⟨W1, hs1, hC1, hM1⟩ := C_q hW hs hC hM f1 (fun c j w => by unfold XPr at w; unfold KC; omega)
  have rs := RS_of W1 hC1 hM1 hO
  obtain ⟨M2, e2, lb2, f2⟩ := m_cost (y := y) (n := n) (b := b) hM1.2.2.2.2.2.1 rs
  exact ⟨_, M1, M2, fun Q => e1 35 Q, fun Q => e2 40 Q (by omega), hs1, IV_qL W1 hs1 hC1 hM1 hO f2 (fun c j w => by unfold XC XC0 XG at w; unfold KM0; omega) lb2⟩
theorem B_args {so : Int32} (hI : IV sc M) : BB sc M mX10_args mX11_args [.int so] := by
  obtain ⟨hW, hs, tp, ap, lim, lm, S, P, im, LL, h, PL, hv, L, hC, hM, hO⟩ := hI
  obtain ⟨tc, dr, st, pa, ic, lb, pc, hh, se⟩ := id hC
  have hl : S.1.length ≤ 12 := hM.2.1.1
  have hw : WFl S.1 := hO.2.2.2.2.1.1
  have ht : S.2.2.2.1 ≤ 9999 := st.2.2.2.2.2.2.2.2
  have hlim := hO.2.1
  obtain ⟨M1, e1, f1⟩ := c_args (so := so) hW st se lb
  obtain ⟨W1, hs1, hC1, hM1⟩ := C_q hW hs hC hM f1 (fun c j w => by unfold XFi XPr at w; unfold KC; omega)
  have rs := RS_of W1 hC1 hM1 hO
  obtain ⟨M2, e2, lb2, f2⟩ := m_args (so := so) hM1.2.2.2.2.2.1 hM1.2.2.2.2.2.2.2.2 rs
  exact ⟨_, M1, M2, fun Q => e1 34 Q, fun Q => e2 40 Q (by omega), hs1, IV_qL W1 hs1 hC1 hM1 hO f2 (fun c j w => by unfold XC9 XC XC0 XG at w; unfold KM0; omega) lb2⟩
theorem B_ask {so : Int32} (hI : IV sc M) : BB sc M mX10_ask mX11_ask [.int so] := by
  obtain ⟨hW, hs, tp, ap, lim, lm, S, P, im, LL, h, PL, hv, L, hC, hM, hO⟩ := hI
  obtain ⟨tc, dr, st, pa, ic, lb, pc, hh, se⟩ := id hC
  have hl : S.1.length ≤ 12 := hM.2.1.1
  have hw : WFl S.1 := hO.2.2.2.2.1.1
  have ht : S.2.2.2.1 ≤ 9999 := st.2.2.2.2.2.2.2.2
  have hlim := hO.2.1
  obtain ⟨M1, e1, f1⟩ := c_ask (so := so) hW st se lb
  obtain ⟨W1, hs1, hC1, hM1⟩ := C_q hW hs hC hM f1 (fun c j w => by unfold XFi XPr at w; unfold KC; omega)
  have rs := RS_of W1 hC1 hM1 hO
  obtain ⟨M2, e2, lb2, f2⟩ := m_ask (so := so) hM1.2.2.2.2.2.1 hM1.2.2.2.2.2.2.2.2 rs
  exact ⟨_, M1, M2, fun Q => e1 33 Q, fun Q => e2 40 Q (by omega), hs1, IV_qL W1 hs1 hC1 hM1 hO f2 (fun c j w => by unfold XC9 XC XC0 XG at w; unfold KM0; omega) lb2⟩
theorem B_game {w : Int32} (hI : IV sc M) : BB sc M mX10_game mX11_game [.int w] := by
  obtain ⟨hW, hs, tp, ap, lim, lm, S, P, im, LL, h, PL, hv, L, hC, hM, hO⟩ := hI
  obtain ⟨tc, dr, st, pa, ic, lb, pc, hh, se⟩ := id hC
  have hl : S.1.length ≤ 12 := hM.2.1.1
  have hw : WFl S.1 := hO.2.2.2.2.1.1
  have ht : S.2.2.2.1 ≤ 9999 := st.2.2.2.2.2.2.2.2
  have hlim := hO.2.1
  obtain ⟨M1, e1, f1⟩ := c_game (w := w) hW st hl hw lb
  obtain ⟨W1, hs1, hC1, hM1⟩ := C_q hW hs hC hM f1 (fun c j w => by unfold XGa XL XGm XPr at w; unfold KC; omega)
  have rs := RS_of W1 hC1 hM1 hO
  obtain ⟨M2, e2, lb2, f2⟩ := m_game (w := w) rs hM1.2.2.2.2.2.1
  exact ⟨_, M1, M2, fun Q => e1 34 Q, fun Q => e2 40 Q (by omega), hs1, IV_qL W1 hs1 hC1 hM1 hO f2 (fun c j w => by unfold XMG XCG XC XC0 XG XN at w; unfold KM0; omega) lb2⟩
theorem B_cheapest {a : Int32} (hI : IV sc M) : BB sc M mX10_cheapest mX11_cheapest [.int a] := by
  obtain ⟨hW, hs, tp, ap, lim, lm, S, P, im, LL, h, PL, hv, L, hC, hM, hO⟩ := hI
  obtain ⟨tc, dr, st, pa, ic, lb, pc, hh, se⟩ := id hC
  have hl : S.1.length ≤ 12 := hM.2.1.1
  have hw : WFl S.1 := hO.2.2.2.2.1.1
  have ht : S.2.2.2.1 ≤ 9999 := st.2.2.2.2.2.2.2.2
  have hlim := hO.2.1
  obtain ⟨M1, e1, f1⟩ := c_cheapest (a := a) hW st hl hw lb
  obtain ⟨W1, hs1, hC1, hM1⟩ := C_q hW hs hC hM f1 (fun c j w => by unfold XCc XL XTb XPr at w; unfold KC; omega)
  have rs := RS_of W1 hC1 hM1 hO
  obtain ⟨M2, e2, lb2, f2⟩ := m_cheapest (a := a) rs hM1.2.2.2.2.2.1
  exact ⟨_, M1, M2, fun Q => e1 33 Q, fun Q => e2 40 Q (by omega), hs1, IV_qL W1 hs1 hC1 hM1 hO f2 (fun c j w => by unfold XMc XCL XC XC0 XG XN at w; unfold KM0; omega) lb2⟩
theorem B_run {k : Int32} {w : Int32} (hI : IV sc M) : BB sc M mX10_run mX11_run [.int k, .int w] := by
  obtain ⟨hW, hs, tp, ap, lim, lm, S, P, im, LL, h, PL, hv, L, hC, hM, hO⟩ := hI
  obtain ⟨tc, dr, st, pa, ic, lb, pc, hh, se⟩ := id hC
  have hl : S.1.length ≤ 12 := hM.2.1.1
  have hw : WFl S.1 := hO.2.2.2.2.1.1
  have ht : S.2.2.2.1 ≤ 9999 := st.2.2.2.2.2.2.2.2
  have hlim := hO.2.1
  obtain ⟨M1, e1, f1⟩ := c_run (k := k) (w := w) hW st hl hw hlim pc
  obtain ⟨W1, hs1, hC1, hM1⟩ := C_q hW hs hC hM f1 (fun c j w => by unfold KC; omega)
  have rs := RS_of W1 hC1 hM1 hO
  obtain ⟨M2, e2, f2⟩ := m_run (k := k) (w := w) rs hM1.2.2.2.2.2.2.1
  rw [runA_l hO.2.2.2.1] at e2
  exact ⟨_, M1, M2, fun Q => e1 34 Q, fun Q => e2 34 Q, hs1, IV_q W1 hs1 hC1 hM1 hO f2 (fun c j w => by unfold XGo XS at w; unfold KM0 KML; omega)⟩
theorem B_alike {k : Int32} {o : Int32} (hI : IV sc M) : BB sc M mX10_alike mX11_alike [.int k, .int o] := by
  obtain ⟨hW, hs, tp, ap, lim, lm, S, P, im, LL, h, PL, hv, L, hC, hM, hO⟩ := hI
  obtain ⟨tc, dr, st, pa, ic, lb, pc, hh, se⟩ := id hC
  have hl : S.1.length ≤ 12 := hM.2.1.1
  have hw : WFl S.1 := hO.2.2.2.2.1.1
  have ht : S.2.2.2.1 ≤ 9999 := st.2.2.2.2.2.2.2.2
  have hlim := hO.2.1
  obtain ⟨M1, e1, f1⟩ := c_alike (k := k) (o := o) hW st hlim pc
  obtain ⟨W1, hs1, hC1, hM1⟩ := C_q hW hs hC hM f1 (fun c j w => by unfold KC; omega)
  have rs := RS_of W1 hC1 hM1 hO
  obtain ⟨M2, e2, f2⟩ := m_alike (k := k) (o := o) rs hM1.2.2.2.2.2.2.1
  rw [alikeA_l hO.2.2.2.1] at e2
  exact ⟨_, M1, M2, fun Q => e1 34 Q, fun Q => e2 33 Q, hs1, IV_q W1 hs1 hC1 hM1 hO f2 (fun c j w => by unfold XGo XS at w; unfold KM0 KML; omega)⟩
end
