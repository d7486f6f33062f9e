/-- the law, as one that makes the cells of kk calls of apprentice -/
def mLk (kk : Nat) : am_Y := (yL_law, cL_law, 7, some .boolean, 12, 1, (488, 488 + 8 * kk, 103327 + 64 * kk), false, am_cd mL_law)
section
variable {kk : Nat} {d n0 : Nat} {Q : am_Q} {n c w : Nat} {ls : List (Option Value)} {st : List Value} {M : am_M}
set_option maxRecDepth 100000 in
theorem sK_0 : ok d (mLk kk) n0 Q n c w 0 ls st M = ((n < am_NN ∧ am_T n = (0, 10) ∧ c + 1 ≤ 488 + 8 * kk ∧ w + 17 ≤ 103327 + 64 * kk) ∧ ok d (mLk kk) n0 Q (n + 1) (c + 1) (w + 17) 3 ls (.ref n :: st) M) := ok_new (q := (10, 17, 122, 123, 99)) (n' := 0) (c' := 0) (w' := 0) rfl rfl rfl
set_option maxRecDepth 100000 in
theorem sK_3 {x : Nat} : ok d (mLk kk) n0 Q n c w 3 ls (.ref x :: st) M = ok d (mLk kk) n0 Q n c w 4 ls (.ref x :: .ref x :: st) M := ok_r rfl rfl
set_option maxRecDepth 100000 in
theorem sK_4 {b : Nat} {v0 : Nat} (hc : c + 456 ≤ 488 + 8 * kk) (hw : w + 45293 ≤ 103327 + 64 * kk) : ok d (mLk kk) n0 Q n c w 4 ls [.ref b, .ref v0] M = am_big d mX10_init [.ref b] n M (kV fun M' => ok d (mLk kk) n0 Q (n + 456) (c + 456) (w + 45293) 7 ls [.ref v0] M') := ok_spe (y := (mLk kk)) (y' := mX10_init) (pc := 4) (k := 15) (ps := [124, 125, 99, 126]) (c := c) (w := w) (st := [.ref b, .ref v0]) (as := [.ref b]) (rest := [.ref v0]) (kd := 2) (b := b) rfl rfl (by decide) rfl ⟨Nat.le_of_ble_eq_true rfl, Nat.le_of_ble_eq_true rfl, Nat.le_of_ble_eq_true rfl, hc, hw⟩ rfl rfl (am_contV rfl)
set_option maxRecDepth 100000 in
theorem sK_7 {l0 l1 : Option Value} {x : Nat} : ok d (mLk kk) n0 Q n c w 7 (l0 :: l1 :: ls) (.ref x :: st) M = ok d (mLk kk) n0 Q n c w 8 (am_kl l0 :: some (.ref x) :: ls) st M := ok_ast (k := 1) rfl (Or.inr ⟨_, rfl, rfl⟩) (Nat.le_of_ble_eq_true rfl) rfl rfl
set_option maxRecDepth 100000 in
theorem sK_8 : ok d (mLk kk) n0 Q n c w 8 ls st M = ((n < am_NN ∧ am_T n = (0, 11) ∧ c + 1 ≤ 488 + 8 * kk ∧ w + 55 ≤ 103327 + 64 * kk) ∧ ok d (mLk kk) n0 Q (n + 1) (c + 1) (w + 55) 11 ls (.ref n :: st) M) := ok_new (q := (11, 55, 1187, 1188, 110)) (n' := 0) (c' := 0) (w' := 0) rfl rfl rfl
set_option maxRecDepth 100000 in
theorem sK_11 {x : Nat} : ok d (mLk kk) n0 Q n c w 11 ls (.ref x :: st) M = ok d (mLk kk) n0 Q n c w 12 ls (.ref x :: .ref x :: st) M := ok_r rfl rfl
set_option maxRecDepth 100000 in
theorem sK_12 {b : Nat} {v0 : Nat} (hc : c + 29 ≤ 488 + 8 * kk) (hw : w + 57961 ≤ 103327 + 64 * kk) : ok d (mLk kk) n0 Q n c w 12 ls [.ref b, .ref v0] M = am_big d mX11_init [.ref b] n M (kV fun M' => ok d (mLk kk) n0 Q (n + 29) (c + 29) (w + 57961) 15 ls [.ref v0] M') := ok_spe (y := (mLk kk)) (y' := mX11_init) (pc := 12) (k := 18) (ps := [1189, 1190, 110, 1191]) (c := c) (w := w) (st := [.ref b, .ref v0]) (as := [.ref b]) (rest := [.ref v0]) (kd := 2) (b := b) rfl rfl (by decide) rfl ⟨Nat.le_of_ble_eq_true rfl, Nat.le_of_ble_eq_true rfl, Nat.le_of_ble_eq_true rfl, hc, hw⟩ rfl rfl (am_contV rfl)
set_option maxRecDepth 100000 in
theorem sK_15 {l0 l1 l2 : Option Value} {x : Nat} : ok d (mLk kk) n0 Q n c w 15 (l0 :: l1 :: l2 :: ls) (.ref x :: st) M = ok d (mLk kk) n0 Q n c w 16 (l0 :: am_kl l1 :: some (.ref x) :: ls) st M := ok_ast (k := 2) rfl (Or.inr ⟨_, rfl, rfl⟩) (Nat.le_of_ble_eq_true rfl) rfl rfl
set_option maxRecDepth 100000 in
theorem sK_16 : ok d (mLk kk) n0 Q n c w 16 ls st M = ok d (mLk kk) n0 Q n c w 17 ls (.int 1 :: st) M := ok_r rfl (by rw [← ic_1]; rfl)
set_option maxRecDepth 100000 in
theorem sK_17 {x : Int32} : ok d (mLk kk) n0 Q n c w 17 ls (.int x :: st) M = am_mk (mLk kk) (ok d (mLk kk) n0 Q) 4 x n c w 19 ls st M := ok_nar (pc := 17) (t := .long) rfl rfl
set_option maxRecDepth 100000 in
theorem sK_19 {l0 l1 l2 l3 : Option Value} {x : Nat} : ok d (mLk kk) n0 Q n c w 19 (l0 :: l1 :: l2 :: l3 :: ls) (.ref x :: st) M = ok d (mLk kk) n0 Q n c w 20 (l0 :: l1 :: am_kl l2 :: some (.ref x) :: ls) st M := ok_ast (k := 3) rfl (Or.inr ⟨_, rfl, rfl⟩) (Nat.le_of_ble_eq_true rfl) rfl rfl
set_option maxRecDepth 100000 in
theorem sK_20 : ok d (mLk kk) n0 Q n c w 20 ls st M = ok d (mLk kk) n0 Q n c w 21 ls (.int 0 :: st) M := ok_r rfl (by rw [← ic_0]; rfl)
set_option maxRecDepth 100000 in
theorem sK_21 {l0 l1 l2 l3 l4 : Option Value} {x : Int32} : ok d (mLk kk) n0 Q n c w 21 (l0 :: l1 :: l2 :: l3 :: l4 :: ls) (.int x :: st) M = ok d (mLk kk) n0 Q n c w 23 (l0 :: l1 :: l2 :: am_kl l3 :: some (.int x) :: ls) st M := ok_ist (k := 4) rfl (Or.inl rfl) (Nat.le_of_ble_eq_true rfl) rfl rfl
set_option maxRecDepth 100000 in
theorem sK_23 {l0 l1 l2 l3 : Option Value} {x : Int32} : ok d (mLk kk) n0 Q n c w 23 (l0 :: l1 :: l2 :: l3 :: some (.int x) :: ls) st M = ok d (mLk kk) n0 Q n c w 25 (l0 :: l1 :: l2 :: l3 :: some (.int x) :: ls) (.int x :: st) M := ok_r rfl rfl
set_option maxRecDepth 100000 in
theorem sK_25 {x : Nat} : ok d (mLk kk) n0 Q n c w 25 (some (.ref x) :: ls) st M = ok d (mLk kk) n0 Q n c w 26 (some (.ref x) :: ls) (.ref x :: st) M := ok_r rfl rfl
set_option maxRecDepth 100000 in
theorem sK_26 {a : Nat} : ok d (mLk kk) n0 Q n c w 26 ls (.ref a :: st) M = ((a = am_SC ∨ (a < n ∧ 1 ≤ (am_T a).1 ∧ (am_T a).1 ≤ 7)) ∧ ok d (mLk kk) n0 Q n c w 27 ls (.int (am_len M a) :: st) M) := ok_r rfl rfl
set_option maxRecDepth 100000 in
theorem sK_27 : ok d (mLk kk) n0 Q n c w 27 ls st M = ok d (mLk kk) n0 Q n c w 29 ls (.int 6 :: st) M := ok_r rfl (by rw [← bc_6]; rfl)
set_option maxRecDepth 100000 in
theorem sK_29 {x z : Int32} : ok d (mLk kk) n0 Q n c w 29 ls (.int z :: .int x :: st) M = ok d (mLk kk) n0 Q n c w 30 ls (.int (x - z) :: st) M := ok_r rfl rfl
set_option maxRecDepth 100000 in
theorem sK_30 {x z : Int32} : ok d (mLk kk) n0 Q n c w 30 ls (.int z :: .int x :: st) M = ((z < x → ok d (mLk kk) n0 Q n c w 1701 ls st M) ∧ (¬ (z < x) → ok d (mLk kk) n0 Q n c w 33 ls st M)) := ok_ico (pc := 30) (off := 1671) (k := .gt) rfl 1701 (by decide)
set_option maxRecDepth 100000 in
theorem sK_33 {x : Nat} : ok d (mLk kk) n0 Q n c w 33 (some (.ref x) :: ls) st M = ok d (mLk kk) n0 Q n c w 34 (some (.ref x) :: ls) (.ref x :: st) M := ok_r rfl rfl
set_option maxRecDepth 100000 in
theorem sK_34 {l0 l1 l2 l3 : Option Value} {x : Int32} : ok d (mLk kk) n0 Q n c w 34 (l0 :: l1 :: l2 :: l3 :: some (.int x) :: ls) st M = ok d (mLk kk) n0 Q n c w 36 (l0 :: l1 :: l2 :: l3 :: some (.int x) :: ls) (.int x :: st) M := ok_r rfl rfl
set_option maxRecDepth 100000 in
theorem sK_36 {a : Nat} {i : Int32} : ok d (mLk kk) n0 Q n c w 36 ls (.int i :: .ref a :: st) M = (am_in n M a 1 i ∧ ok d (mLk kk) n0 Q n c w 37 ls (.int (gI M a i.toNatClampNeg) :: st) M) := ok_r rfl rfl
set_option maxRecDepth 100000 in
theorem sK_37 : ok d (mLk kk) n0 Q n c w 37 ls st M = ok d (mLk kk) n0 Q n c w 39 ls (.int 63 :: st) M := ok_r rfl (by rw [← bc_63]; rfl)
set_option maxRecDepth 100000 in
theorem sK_39 {x z : Int32} : ok d (mLk kk) n0 Q n c w 39 ls (.int z :: .int x :: st) M = ok d (mLk kk) n0 Q n c w 40 ls (.int (x &&& z) :: st) M := ok_r rfl rfl
set_option maxRecDepth 100000 in
theorem sK_40 {x : Int32} : ok d (mLk kk) n0 Q n c w 40 ls (.int x :: st) M = (((x = 0 → ok d (mLk kk) n0 Q n c w 232 ls st M) ∧ (x = 1 → ok d (mLk kk) n0 Q n c w 305 ls st M) ∧ (x = 2 → ok d (mLk kk) n0 Q n c w 330 ls st M) ∧ (x = 3 → ok d (mLk kk) n0 Q n c w 355 ls st M) ∧ (x = 4 → ok d (mLk kk) n0 Q n c w 380 ls st M) ∧ (x = 5 → ok d (mLk kk) n0 Q n c w 448 ls st M) ∧ (x = 6 → ok d (mLk kk) n0 Q n c w 485 ls st M) ∧ (x = 7 → ok d (mLk kk) n0 Q n c w 522 ls st M) ∧ (x = 8 → ok d (mLk kk) n0 Q n c w 547 ls st M) ∧ (x = 9 → ok d (mLk kk) n0 Q n c w 572 ls st M) ∧ (x = 10 → ok d (mLk kk) n0 Q n c w 621 ls st M) ∧ (x = 11 → ok d (mLk kk) n0 Q n c w 646 ls st M) ∧ (x = 12 → ok d (mLk kk) n0 Q n c w 683 ls st M) ∧ (x = 13 → ok d (mLk kk) n0 Q n c w 708 ls st M) ∧ (x = 14 → ok d (mLk kk) n0 Q n c w 745 ls st M) ∧ (x = 15 → ok d (mLk kk) n0 Q n c w 758 ls st M) ∧ (x = 16 → ok d (mLk kk) n0 Q n c w 827 ls st M) ∧ (x = 17 → ok d (mLk kk) n0 Q n c w 840 ls st M) ∧ (x = 18 → ok d (mLk kk) n0 Q n c w 877 ls st M) ∧ (x = 19 → ok d (mLk kk) n0 Q n c w 926 ls st M) ∧ (x = 20 → ok d (mLk kk) n0 Q n c w 963 ls st M) ∧ (x = 21 → ok d (mLk kk) n0 Q n c w 988 ls st M) ∧ (x = 22 → ok d (mLk kk) n0 Q n c w 1025 ls st M) ∧ (x = 23 → ok d (mLk kk) n0 Q n c w 1074 ls st M) ∧ (x = 24 → ok d (mLk kk) n0 Q n c w 1087 ls st M) ∧ (x = 25 → ok d (mLk kk) n0 Q n c w 1124 ls st M) ∧ (x = 26 → ok d (mLk kk) n0 Q n c w 1193 ls st M) ∧ (x = 27 → ok d (mLk kk) n0 Q n c w 1218 ls st M) ∧ (x = 28 → ok d (mLk kk) n0 Q n c w 1255 ls st M) ∧ (x = 29 → ok d (mLk kk) n0 Q n c w 1292 ls st M) ∧ (x = 30 → ok d (mLk kk) n0 Q n c w 1329 ls st M) ∧ (x = 31 → ok d (mLk kk) n0 Q n c w 1354 ls st M) ∧ (x = 32 → ok d (mLk kk) n0 Q n c w 1379 ls st M) ∧ (x = 33 → ok d (mLk kk) n0 Q n c w 1392 ls st M) ∧ (x = 34 → ok d (mLk kk) n0 Q n c w 1417 ls st M) ∧ (x = 35 → ok d (mLk kk) n0 Q n c w 1442 ls st M) ∧ (x = 36 → ok d (mLk kk) n0 Q n c w 1479 ls st M) ∧ (x = 37 → ok d (mLk kk) n0 Q n c w 1544 ls st M) ∧ (x = 38 → ok d (mLk kk) n0 Q n c w 1569 ls st M) ∧ (x = 39 → ok d (mLk kk) n0 Q n c w 1594 ls st M) ∧ (x = 40 → ok d (mLk kk) n0 Q n c w 1619 ls st M) ∧ (x = 41 → ok d (mLk kk) n0 Q n c w 1644 ls st M) ∧ (x = 42 → ok d (mLk kk) n0 Q n c w 1657 ls st M) ∧ (x = 43 → ok d (mLk kk) n0 Q n c w 1670 ls st M) ∧ True) ∧ (x.toInt < 0 ∨ 43 < x.toInt → ok d (mLk kk) n0 Q n c w 1695 ls st M)) := ok_tab (pc := 40) (len := 192) (dflt := 1655) (lo := 0) (hi := 43) (offs := #[192, 265, 290, 315, 340, 408, 445, 482, 507, 532, 581, 606, 643, 668, 705, 718, 787, 800, 837, 886, 923, 948, 985, 1034, 1047, 1084, 1153, 1178, 1215, 1252, 1289, 1314, 1339, 1352, 1377, 1402, 1439, 1504, 1529, 1554, 1579, 1604, 1617, 1630]) rfl 1695 (by decide) (by decide) (am_tsw_c (pc := 40) (k := 0) (k' := 1) (o := 192) (v := 0) 232 (by decide) (by decide) (by decide) (am_tsw_c (pc := 40) (k := 1) (k' := 2) (o := 265) (v := 1) 305 (by decide) (by decide) (by decide) (am_tsw_c (pc := 40) (k := 2) (k' := 3) (o := 290) (v := 2) 330 (by decide) (by decide) (by decide) (am_tsw_c (pc := 40) (k := 3) (k' := 4) (o := 315) (v := 3) 355 (by decide) (by decide) (by decide) (am_tsw_c (pc := 40) (k := 4) (k' := 5) (o := 340) (v := 4) 380 (by decide) (by decide) (by decide) (am_tsw_c (pc := 40) (k := 5) (k' := 6) (o := 408) (v := 5) 448 (by decide) (by decide) (by decide) (am_tsw_c (pc := 40) (k := 6) (k' := 7) (o := 445) (v := 6) 485 (by decide) (by decide) (by decide) (am_tsw_c (pc := 40) (k := 7) (k' := 8) (o := 482) (v := 7) 522 (by decide) (by decide) (by decide) (am_tsw_c (pc := 40) (k := 8) (k' := 9) (o := 507) (v := 8) 547 (by decide) (by decide) (by decide) (am_tsw_c (pc := 40) (k := 9) (k' := 10) (o := 532) (v := 9) 572 (by decide) (by decide) (by decide) (am_tsw_c (pc := 40) (k := 10) (k' := 11) (o := 581) (v := 10) 621 (by decide) (by decide) (by decide) (am_tsw_c (pc := 40) (k := 11) (k' := 12) (o := 606) (v := 11) 646 (by decide) (by decide) (by decide) (am_tsw_c (pc := 40) (k := 12) (k' := 13) (o := 643) (v := 12) 683 (by decide) (by decide) (by decide) (am_tsw_c (pc := 40) (k := 13) (k' := 14) (o := 668) (v := 13) 708 (by decide) (by decide) (by decide) (am_tsw_c (pc := 40) (k := 14) (k' := 15) (o := 705) (v := 14) 745 (by decide) (by decide) (by decide) (am_tsw_c (pc := 40) (k := 15) (k' := 16) (o := 718) (v := 15) 758 (by decide) (by decide) (by decide) (am_tsw_c (pc := 40) (k := 16) (k' := 17) (o := 787) (v := 16) 827 (by decide) (by decide) (by decide) (am_tsw_c (pc := 40) (k := 17) (k' := 18) (o := 800) (v := 17) 840 (by decide) (by decide) (by decide) (am_tsw_c (pc := 40) (k := 18) (k' := 19) (o := 837) (v := 18) 877 (by decide) (by decide) (by decide) (am_tsw_c (pc := 40) (k := 19) (k' := 20) (o := 886) (v := 19) 926 (by decide) (by decide) (by decide) (am_tsw_c (pc := 40) (k := 20) (k' := 21) (o := 923) (v := 20) 963 (by decide) (by decide) (by decide) (am_tsw_c (pc := 40) (k := 21) (k' := 22) (o := 948) (v := 21) 988 (by decide) (by decide) (by decide) (am_tsw_c (pc := 40) (k := 22) (k' := 23) (o := 985) (v := 22) 1025 (by decide) (by decide) (by decide) (am_tsw_c (pc := 40) (k := 23) (k' := 24) (o := 1034) (v := 23) 1074 (by decide) (by decide) (by decide) (am_tsw_c (pc := 40) (k := 24) (k' := 25) (o := 1047) (v := 24) 1087 (by decide) (by decide) (by decide) (am_tsw_c (pc := 40) (k := 25) (k' := 26) (o := 1084) (v := 25) 1124 (by decide) (by decide) (by decide) (am_tsw_c (pc := 40) (k := 26) (k' := 27) (o := 1153) (v := 26) 1193 (by decide) (by decide) (by decide) (am_tsw_c (pc := 40) (k := 27) (k' := 28) (o := 1178) (v := 27) 1218 (by decide) (by decide) (by decide) (am_tsw_c (pc := 40) (k := 28) (k' := 29) (o := 1215) (v := 28) 1255 (by decide) (by decide) (by decide) (am_tsw_c (pc := 40) (k := 29) (k' := 30) (o := 1252) (v := 29) 1292 (by decide) (by decide) (by decide) (am_tsw_c (pc := 40) (k := 30) (k' := 31) (o := 1289) (v := 30) 1329 (by decide) (by decide) (by decide) (am_tsw_c (pc := 40) (k := 31) (k' := 32) (o := 1314) (v := 31) 1354 (by decide) (by decide) (by decide) (am_tsw_c (pc := 40) (k := 32) (k' := 33) (o := 1339) (v := 32) 1379 (by decide) (by decide) (by decide) (am_tsw_c (pc := 40) (k := 33) (k' := 34) (o := 1352) (v := 33) 1392 (by decide) (by decide) (by decide) (am_tsw_c (pc := 40) (k := 34) (k' := 35) (o := 1377) (v := 34) 1417 (by decide) (by decide) (by decide) (am_tsw_c (pc := 40) (k := 35) (k' := 36) (o := 1402) (v := 35) 1442 (by decide) (by decide) (by decide) (am_tsw_c (pc := 40) (k := 36) (k' := 37) (o := 1439) (v := 36) 1479 (by decide) (by decide) (by decide) (am_tsw_c (pc := 40) (k := 37) (k' := 38) (o := 1504) (v := 37) 1544 (by decide) (by decide) (by decide) (am_tsw_c (pc := 40) (k := 38) (k' := 39) (o := 1529) (v := 38) 1569 (by decide) (by decide) (by decide) (am_tsw_c (pc := 40) (k := 39) (k' := 40) (o := 1554) (v := 39) 1594 (by decide) (by decide) (by decide) (am_tsw_c (pc := 40) (k := 40) (k' := 41) (o := 1579) (v := 40) 1619 (by decide) (by decide) (by decide) (am_tsw_c (pc := 40) (k := 41) (k' := 42) (o := 1604) (v := 41) 1644 (by decide) (by decide) (by decide) (am_tsw_c (pc := 40) (k := 42) (k' := 43) (o := 1617) (v := 42) 1657 (by decide) (by decide) (by decide) (am_tsw_c (pc := 40) (k := 43) (k' := 44) (o := 1630) (v := 43) 1670 (by decide) (by decide) (by decide) rfl))))))))))))))))))))))))))))))))))))))))))))
set_option maxRecDepth 100000 in
theorem sK_232 {l0 : Option Value} {x : Nat} : ok d (mLk kk) n0 Q n c w 232 (l0 :: some (.ref x) :: ls) st M = ok d (mLk kk) n0 Q n c w 233 (l0 :: some (.ref x) :: ls) (.ref x :: st) M := ok_r rfl rfl
set_option maxRecDepth 100000 in
theorem sK_233 {x : Nat} : ok d (mLk kk) n0 Q n c w 233 (some (.ref x) :: ls) st M = ok d (mLk kk) n0 Q n c w 234 (some (.ref x) :: ls) (.ref x :: st) M := ok_r rfl rfl
set_option maxRecDepth 100000 in
theorem sK_234 {l0 l1 l2 l3 : Option Value} {x : Int32} : ok d (mLk kk) n0 Q n c w 234 (l0 :: l1 :: l2 :: l3 :: some (.int x) :: ls) st M = ok d (mLk kk) n0 Q n c w 236 (l0 :: l1 :: l2 :: l3 :: some (.int x) :: ls) (.int x :: st) M := ok_r rfl rfl
set_option maxRecDepth 100000 in
theorem sK_236 : ok d (mLk kk) n0 Q n c w 236 ls st M = ok d (mLk kk) n0 Q n c w 237 ls (.int 1 :: st) M := ok_r rfl (by rw [← ic_1]; rfl)
set_option maxRecDepth 100000 in
theorem sK_237 {x z : Int32} : ok d (mLk kk) n0 Q n c w 237 ls (.int z :: .int x :: st) M = ok d (mLk kk) n0 Q n c w 238 ls (.int (x + z) :: st) M := ok_r rfl rfl
set_option maxRecDepth 100000 in
theorem sK_238 {a : Nat} {i : Int32} : ok d (mLk kk) n0 Q n c w 238 ls (.int i :: .ref a :: st) M = (am_in n M a 1 i ∧ ok d (mLk kk) n0 Q n c w 239 ls (.int (gI M a i.toNatClampNeg) :: st) M) := ok_r rfl rfl
set_option maxRecDepth 100000 in
theorem sK_239 {x : Nat} : ok d (mLk kk) n0 Q n c w 239 (some (.ref x) :: ls) st M = ok d (mLk kk) n0 Q n c w 240 (some (.ref x) :: ls) (.ref x :: st) M := ok_r rfl rfl
set_option maxRecDepth 100000 in
theorem sK_240 {l0 l1 l2 l3 : Option Value} {x : Int32} : ok d (mLk kk) n0 Q n c w 240 (l0 :: l1 :: l2 :: l3 :: some (.int x) :: ls) st M = ok d (mLk kk) n0 Q n c w 242 (l0 :: l1 :: l2 :: l3 :: some (.int x) :: ls) (.int x :: st) M := ok_r rfl rfl
set_option maxRecDepth 100000 in
theorem sK_242 : ok d (mLk kk) n0 Q n c w 242 ls st M = ok d (mLk kk) n0 Q n c w 243 ls (.int 2 :: st) M := ok_r rfl (by rw [← ic_2]; rfl)
set_option maxRecDepth 100000 in
theorem sK_243 {x z : Int32} : ok d (mLk kk) n0 Q n c w 243 ls (.int z :: .int x :: st) M = ok d (mLk kk) n0 Q n c w 244 ls (.int (x + z) :: st) M := ok_r rfl rfl
set_option maxRecDepth 100000 in
theorem sK_244 {a : Nat} {i : Int32} : ok d (mLk kk) n0 Q n c w 244 ls (.int i :: .ref a :: st) M = (am_in n M a 1 i ∧ ok d (mLk kk) n0 Q n c w 245 ls (.int (gI M a i.toNatClampNeg) :: st) M) := ok_r rfl rfl
set_option maxRecDepth 100000 in
theorem sK_245 {x : Nat} : ok d (mLk kk) n0 Q n c w 245 (some (.ref x) :: ls) st M = ok d (mLk kk) n0 Q n c w 246 (some (.ref x) :: ls) (.ref x :: st) M := ok_r rfl rfl
set_option maxRecDepth 100000 in
theorem sK_246 {l0 l1 l2 l3 : Option Value} {x : Int32} : ok d (mLk kk) n0 Q n c w 246 (l0 :: l1 :: l2 :: l3 :: some (.int x) :: ls) st M = ok d (mLk kk) n0 Q n c w 248 (l0 :: l1 :: l2 :: l3 :: some (.int x) :: ls) (.int x :: st) M := ok_r rfl rfl
set_option maxRecDepth 100000 in
theorem sK_248 : ok d (mLk kk) n0 Q n c w 248 ls st M = ok d (mLk kk) n0 Q n c w 249 ls (.int 3 :: st) M := ok_r rfl (by rw [← ic_3]; rfl)
set_option maxRecDepth 100000 in
theorem sK_249 {x z : Int32} : ok d (mLk kk) n0 Q n c w 249 ls (.int z :: .int x :: st) M = ok d (mLk kk) n0 Q n c w 250 ls (.int (x + z) :: st) M := ok_r rfl rfl
set_option maxRecDepth 100000 in
theorem sK_250 {a : Nat} {i : Int32} : ok d (mLk kk) n0 Q n c w 250 ls (.int i :: .ref a :: st) M = (am_in n M a 1 i ∧ ok d (mLk kk) n0 Q n c w 251 ls (.int (gI M a i.toNatClampNeg) :: st) M) := ok_r rfl rfl
set_option maxRecDepth 100000 in
theorem sK_251 {x : Nat} : ok d (mLk kk) n0 Q n c w 251 (some (.ref x) :: ls) st M = ok d (mLk kk) n0 Q n c w 252 (some (.ref x) :: ls) (.ref x :: st) M := ok_r rfl rfl
set_option maxRecDepth 100000 in
theorem sK_252 {l0 l1 l2 l3 : Option Value} {x : Int32} : ok d (mLk kk) n0 Q n c w 252 (l0 :: l1 :: l2 :: l3 :: some (.int x) :: ls) st M = ok d (mLk kk) n0 Q n c w 254 (l0 :: l1 :: l2 :: l3 :: some (.int x) :: ls) (.int x :: st) M := ok_r rfl rfl
set_option maxRecDepth 100000 in
theorem sK_254 : ok d (mLk kk) n0 Q n c w 254 ls st M = ok d (mLk kk) n0 Q n c w 255 ls (.int 4 :: st) M := ok_r rfl (by rw [← ic_4]; rfl)
set_option maxRecDepth 100000 in
theorem sK_255 {x z : Int32} : ok d (mLk kk) n0 Q n c w 255 ls (.int z :: .int x :: st) M = ok d (mLk kk) n0 Q n c w 256 ls (.int (x + z) :: st) M := ok_r rfl rfl
set_option maxRecDepth 100000 in
theorem sK_256 {a : Nat} {i : Int32} : ok d (mLk kk) n0 Q n c w 256 ls (.int i :: .ref a :: st) M = (am_in n M a 1 i ∧ ok d (mLk kk) n0 Q n c w 257 ls (.int (gI M a i.toNatClampNeg) :: st) M) := ok_r rfl rfl
set_option maxRecDepth 100000 in
theorem sK_257 {x : Nat} : ok d (mLk kk) n0 Q n c w 257 (some (.ref x) :: ls) st M = ok d (mLk kk) n0 Q n c w 258 (some (.ref x) :: ls) (.ref x :: st) M := ok_r rfl rfl
set_option maxRecDepth 100000 in
theorem sK_258 {l0 l1 l2 l3 : Option Value} {x : Int32} : ok d (mLk kk) n0 Q n c w 258 (l0 :: l1 :: l2 :: l3 :: some (.int x) :: ls) st M = ok d (mLk kk) n0 Q n c w 260 (l0 :: l1 :: l2 :: l3 :: some (.int x) :: ls) (.int x :: st) M := ok_r rfl rfl
set_option maxRecDepth 100000 in
theorem sK_260 : ok d (mLk kk) n0 Q n c w 260 ls st M = ok d (mLk kk) n0 Q n c w 261 ls (.int 5 :: st) M := ok_r rfl (by rw [← ic_5]; rfl)
set_option maxRecDepth 100000 in
theorem sK_261 {x z : Int32} : ok d (mLk kk) n0 Q n c w 261 ls (.int z :: .int x :: st) M = ok d (mLk kk) n0 Q n c w 262 ls (.int (x + z) :: st) M := ok_r rfl rfl
set_option maxRecDepth 100000 in
theorem sK_262 {a : Nat} {i : Int32} : ok d (mLk kk) n0 Q n c w 262 ls (.int i :: .ref a :: st) M = (am_in n M a 1 i ∧ ok d (mLk kk) n0 Q n c w 263 ls (.int (gI M a i.toNatClampNeg) :: st) M) := ok_r rfl rfl
set_option maxRecDepth 100000 in
theorem sK_263 {b : Nat} {a0 : Int32} {a1 : Int32} {a2 : Int32} {a3 : Int32} {a4 : Int32} (hc : c + 0 ≤ 488 + 8 * kk) (hw : w + 0 ≤ 103327 + 64 * kk) : ok d (mLk kk) n0 Q n c w 263 ls [.int a4, .int a3, .int a2, .int a1, .int a0, .ref b] M = (am_ob n b 10 ∧ am_big d mX10_feed [.ref b, .int a0, .int a1, .int a2, .int a3, .int a4] n M (kI fun x M' => ok d (mLk kk) n0 Q n c w 266 ls (.int x :: []) M')) := ok_vir (y := (mLk kk)) (y' := mX10_feed) (pc := 263) (k := 19) (ps := [421, 422, 423, 99, 424]) (c := c) (w := w) (st := [.int a4, .int a3, .int a2, .int a1, .int a0, .ref b]) (as := [.ref b, .int a0, .int a1, .int a2, .int a3, .int a4]) (rest := []) (b := b) rfl rfl rfl ⟨Nat.le_of_ble_eq_true rfl, Nat.le_of_ble_eq_true rfl, Nat.le_of_ble_eq_true rfl, hc, hw⟩ rfl rfl (am_contI (Or.inl rfl) rfl)
set_option maxRecDepth 100000 in
theorem sK_266 {l0 l1 : Option Value} {x : Nat} : ok d (mLk kk) n0 Q n c w 266 (l0 :: l1 :: some (.ref x) :: ls) st M = ok d (mLk kk) n0 Q n c w 267 (l0 :: l1 :: some (.ref x) :: ls) (.ref x :: st) M := ok_r rfl rfl
set_option maxRecDepth 100000 in
theorem sK_267 {x : Nat} : ok d (mLk kk) n0 Q n c w 267 (some (.ref x) :: ls) st M = ok d (mLk kk) n0 Q n c w 268 (some (.ref x) :: ls) (.ref x :: st) M := ok_r rfl rfl
set_option maxRecDepth 100000 in
theorem sK_268 {l0 l1 l2 l3 : Option Value} {x : Int32} : ok d (mLk kk) n0 Q n c w 268 (l0 :: l1 :: l2 :: l3 :: some (.int x) :: ls) st M = ok d (mLk kk) n0 Q n c w 270 (l0 :: l1 :: l2 :: l3 :: some (.int x) :: ls) (.int x :: st) M := ok_r rfl rfl
set_option maxRecDepth 100000 in
theorem sK_270 : ok d (mLk kk) n0 Q n c w 270 ls st M = ok d (mLk kk) n0 Q n c w 271 ls (.int 1 :: st) M := ok_r rfl (by rw [← ic_1]; rfl)
set_option maxRecDepth 100000 in
theorem sK_271 {x z : Int32} : ok d (mLk kk) n0 Q n c w 271 ls (.int z :: .int x :: st) M = ok d (mLk kk) n0 Q n c w 272 ls (.int (x + z) :: st) M := ok_r rfl rfl
set_option maxRecDepth 100000 in
theorem sK_272 {a : Nat} {i : Int32} : ok d (mLk kk) n0 Q n c w 272 ls (.int i :: .ref a :: st) M = (am_in n M a 1 i ∧ ok d (mLk kk) n0 Q n c w 273 ls (.int (gI M a i.toNatClampNeg) :: st) M) := ok_r rfl rfl
set_option maxRecDepth 100000 in
theorem sK_273 {x : Nat} : ok d (mLk kk) n0 Q n c w 273 (some (.ref x) :: ls) st M = ok d (mLk kk) n0 Q n c w 274 (some (.ref x) :: ls) (.ref x :: st) M := ok_r rfl rfl
set_option maxRecDepth 100000 in
theorem sK_274 {l0 l1 l2 l3 : Option Value} {x : Int32} : ok d (mLk kk) n0 Q n c w 274 (l0 :: l1 :: l2 :: l3 :: some (.int x) :: ls) st M = ok d (mLk kk) n0 Q n c w 276 (l0 :: l1 :: l2 :: l3 :: some (.int x) :: ls) (.int x :: st) M := ok_r rfl rfl
set_option maxRecDepth 100000 in
theorem sK_276 : ok d (mLk kk) n0 Q n c w 276 ls st M = ok d (mLk kk) n0 Q n c w 277 ls (.int 2 :: st) M := ok_r rfl (by rw [← ic_2]; rfl)
set_option maxRecDepth 100000 in
theorem sK_277 {x z : Int32} : ok d (mLk kk) n0 Q n c w 277 ls (.int z :: .int x :: st) M = ok d (mLk kk) n0 Q n c w 278 ls (.int (x + z) :: st) M := ok_r rfl rfl
set_option maxRecDepth 100000 in
theorem sK_278 {a : Nat} {i : Int32} : ok d (mLk kk) n0 Q n c w 278 ls (.int i :: .ref a :: st) M = (am_in n M a 1 i ∧ ok d (mLk kk) n0 Q n c w 279 ls (.int (gI M a i.toNatClampNeg) :: st) M) := ok_r rfl rfl
set_option maxRecDepth 100000 in
theorem sK_279 {x : Nat} : ok d (mLk kk) n0 Q n c w 279 (some (.ref x) :: ls) st M = ok d (mLk kk) n0 Q n c w 280 (some (.ref x) :: ls) (.ref x :: st) M := ok_r rfl rfl
set_option maxRecDepth 100000 in
theorem sK_280 {l0 l1 l2 l3 : Option Value} {x : Int32} : ok d (mLk kk) n0 Q n c w 280 (l0 :: l1 :: l2 :: l3 :: some (.int x) :: ls) st M = ok d (mLk kk) n0 Q n c w 282 (l0 :: l1 :: l2 :: l3 :: some (.int x) :: ls) (.int x :: st) M := ok_r rfl rfl
set_option maxRecDepth 100000 in
theorem sK_282 : ok d (mLk kk) n0 Q n c w 282 ls st M = ok d (mLk kk) n0 Q n c w 283 ls (.int 3 :: st) M := ok_r rfl (by rw [← ic_3]; rfl)
set_option maxRecDepth 100000 in
theorem sK_283 {x z : Int32} : ok d (mLk kk) n0 Q n c w 283 ls (.int z :: .int x :: st) M = ok d (mLk kk) n0 Q n c w 284 ls (.int (x + z) :: st) M := ok_r rfl rfl
set_option maxRecDepth 100000 in
theorem sK_284 {a : Nat} {i : Int32} : ok d (mLk kk) n0 Q n c w 284 ls (.int i :: .ref a :: st) M = (am_in n M a 1 i ∧ ok d (mLk kk) n0 Q n c w 285 ls (.int (gI M a i.toNatClampNeg) :: st) M) := ok_r rfl rfl
set_option maxRecDepth 100000 in
theorem sK_285 {x : Nat} : ok d (mLk kk) n0 Q n c w 285 (some (.ref x) :: ls) st M = ok d (mLk kk) n0 Q n c w 286 (some (.ref x) :: ls) (.ref x :: st) M := ok_r rfl rfl
set_option maxRecDepth 100000 in
theorem sK_286 {l0 l1 l2 l3 : Option Value} {x : Int32} : ok d (mLk kk) n0 Q n c w 286 (l0 :: l1 :: l2 :: l3 :: some (.int x) :: ls) st M = ok d (mLk kk) n0 Q n c w 288 (l0 :: l1 :: l2 :: l3 :: some (.int x) :: ls) (.int x :: st) M := ok_r rfl rfl
set_option maxRecDepth 100000 in
theorem sK_288 : ok d (mLk kk) n0 Q n c w 288 ls st M = ok d (mLk kk) n0 Q n c w 289 ls (.int 4 :: st) M := ok_r rfl (by rw [← ic_4]; rfl)
set_option maxRecDepth 100000 in
theorem sK_289 {x z : Int32} : ok d (mLk kk) n0 Q n c w 289 ls (.int z :: .int x :: st) M = ok d (mLk kk) n0 Q n c w 290 ls (.int (x + z) :: st) M := ok_r rfl rfl
set_option maxRecDepth 100000 in
theorem sK_290 {a : Nat} {i : Int32} : ok d (mLk kk) n0 Q n c w 290 ls (.int i :: .ref a :: st) M = (am_in n M a 1 i ∧ ok d (mLk kk) n0 Q n c w 291 ls (.int (gI M a i.toNatClampNeg) :: st) M) := ok_r rfl rfl
set_option maxRecDepth 100000 in
theorem sK_291 {x : Nat} : ok d (mLk kk) n0 Q n c w 291 (some (.ref x) :: ls) st M = ok d (mLk kk) n0 Q n c w 292 (some (.ref x) :: ls) (.ref x :: st) M := ok_r rfl rfl
set_option maxRecDepth 100000 in
theorem sK_292 {l0 l1 l2 l3 : Option Value} {x : Int32} : ok d (mLk kk) n0 Q n c w 292 (l0 :: l1 :: l2 :: l3 :: some (.int x) :: ls) st M = ok d (mLk kk) n0 Q n c w 294 (l0 :: l1 :: l2 :: l3 :: some (.int x) :: ls) (.int x :: st) M := ok_r rfl rfl
set_option maxRecDepth 100000 in
theorem sK_294 : ok d (mLk kk) n0 Q n c w 294 ls st M = ok d (mLk kk) n0 Q n c w 295 ls (.int 5 :: st) M := ok_r rfl (by rw [← ic_5]; rfl)
set_option maxRecDepth 100000 in
theorem sK_295 {x z : Int32} : ok d (mLk kk) n0 Q n c w 295 ls (.int z :: .int x :: st) M = ok d (mLk kk) n0 Q n c w 296 ls (.int (x + z) :: st) M := ok_r rfl rfl
set_option maxRecDepth 100000 in
theorem sK_296 {a : Nat} {i : Int32} : ok d (mLk kk) n0 Q n c w 296 ls (.int i :: .ref a :: st) M = (am_in n M a 1 i ∧ ok d (mLk kk) n0 Q n c w 297 ls (.int (gI M a i.toNatClampNeg) :: st) M) := ok_r rfl rfl
set_option maxRecDepth 100000 in
theorem sK_297 {b : Nat} {v0 : Int32} {a0 : Int32} {a1 : Int32} {a2 : Int32} {a3 : Int32} {a4 : Int32} (hc : c + 0 ≤ 488 + 8 * kk) (hw : w + 0 ≤ 103327 + 64 * kk) : ok d (mLk kk) n0 Q n c w 297 ls [.int a4, .int a3, .int a2, .int a1, .int a0, .ref b, .int v0] M = (am_ob n b 11 ∧ am_big d mX11_feed [.ref b, .int a0, .int a1, .int a2, .int a3, .int a4] n M (kI fun x M' => ok d (mLk kk) n0 Q n c w 300 ls (.int x :: .int v0 :: []) M')) := ok_vir (y := (mLk kk)) (y' := mX11_feed) (pc := 297) (k := 23) (ps := [1366, 1367, 1368, 110, 1369]) (c := c) (w := w) (st := [.int a4, .int a3, .int a2, .int a1, .int a0, .ref b, .int v0]) (as := [.ref b, .int a0, .int a1, .int a2, .int a3, .int a4]) (rest := [.int v0]) (b := b) rfl rfl rfl ⟨Nat.le_of_ble_eq_true rfl, Nat.le_of_ble_eq_true rfl, Nat.le_of_ble_eq_true rfl, hc, hw⟩ rfl rfl (am_contI (Or.inl rfl) rfl)
set_option maxRecDepth 100000 in
theorem sK_300 {x z : Int32} : ok d (mLk kk) n0 Q n c w 300 ls (.int z :: .int x :: st) M = ((x = z → ok d (mLk kk) n0 Q n c w 1695 ls st M) ∧ (¬ (x = z) → ok d (mLk kk) n0 Q n c w 303 ls st M)) := ok_ico (pc := 300) (off := 1395) (k := .eq) rfl 1695 (by decide)
set_option maxRecDepth 100000 in
theorem sK_303 : ok d (mLk kk) n0 Q n c w 303 ls st M = ok d (mLk kk) n0 Q n c w 304 ls (.int 0 :: st) M := ok_r rfl (by rw [← ic_0]; rfl)
set_option maxRecDepth 100000 in
theorem sK_304 {x : Int32} (ha : am_ret (mLk kk) n0 n c w) : ok d (mLk kk) n0 Q n c w 304 ls [.int x] M = ((x = 0 ∨ x = 1) ∧ Q (some (.int x)) M) := ok_reZ rfl rfl ha
set_option maxRecDepth 100000 in
theorem sK_305 {l0 : Option Value} {x : Nat} : ok d (mLk kk) n0 Q n c w 305 (l0 :: some (.ref x) :: ls) st M = ok d (mLk kk) n0 Q n c w 306 (l0 :: some (.ref x) :: ls) (.ref x :: st) M := ok_r rfl rfl
set_option maxRecDepth 100000 in
theorem sK_306 {x : Nat} : ok d (mLk kk) n0 Q n c w 306 (some (.ref x) :: ls) st M = ok d (mLk kk) n0 Q n c w 307 (some (.ref x) :: ls) (.ref x :: st) M := ok_r rfl rfl
set_option maxRecDepth 100000 in
theorem sK_307 {l0 l1 l2 l3 : Option Value} {x : Int32} : ok d (mLk kk) n0 Q n c w 307 (l0 :: l1 :: l2 :: l3 :: some (.int x) :: ls) st M = ok d (mLk kk) n0 Q n c w 309 (l0 :: l1 :: l2 :: l3 :: some (.int x) :: ls) (.int x :: st) M := ok_r rfl rfl
set_option maxRecDepth 100000 in
theorem sK_309 : ok d (mLk kk) n0 Q n c w 309 ls st M = ok d (mLk kk) n0 Q n c w 310 ls (.int 1 :: st) M := ok_r rfl (by rw [← ic_1]; rfl)
set_option maxRecDepth 100000 in
theorem sK_310 {x z : Int32} : ok d (mLk kk) n0 Q n c w 310 ls (.int z :: .int x :: st) M = ok d (mLk kk) n0 Q n c w 311 ls (.int (x + z) :: st) M := ok_r rfl rfl
set_option maxRecDepth 100000 in
theorem sK_311 {a : Nat} {i : Int32} : ok d (mLk kk) n0 Q n c w 311 ls (.int i :: .ref a :: st) M = (am_in n M a 1 i ∧ ok d (mLk kk) n0 Q n c w 312 ls (.int (gI M a i.toNatClampNeg) :: st) M) := ok_r rfl rfl
set_option maxRecDepth 100000 in
theorem sK_312 {b : Nat} {a0 : Int32} (hc : c + 0 ≤ 488 + 8 * kk) (hw : w + 0 ≤ 103327 + 64 * kk) : ok d (mLk kk) n0 Q n c w 312 ls [.int a0, .ref b] M = (am_ob n b 10 ∧ am_big d mX10_end [.ref b, .int a0] n M (kI fun x M' => ok d (mLk kk) n0 Q n c w 315 ls (.int x :: []) M')) := ok_vir (y := (mLk kk)) (y' := mX10_end) (pc := 312) (k := 24) (ps := [432, 433, 434, 99, 435]) (c := c) (w := w) (st := [.int a0, .ref b]) (as := [.ref b, .int a0]) (rest := []) (b := b) rfl rfl rfl ⟨Nat.le_of_ble_eq_true rfl, Nat.le_of_ble_eq_true rfl, Nat.le_of_ble_eq_true rfl, hc, hw⟩ rfl rfl (am_contI (Or.inr rfl) rfl)
set_option maxRecDepth 100000 in
theorem sK_315 {l0 l1 : Option Value} {x : Nat} : ok d (mLk kk) n0 Q n c w 315 (l0 :: l1 :: some (.ref x) :: ls) st M = ok d (mLk kk) n0 Q n c w 316 (l0 :: l1 :: some (.ref x) :: ls) (.ref x :: st) M := ok_r rfl rfl
set_option maxRecDepth 100000 in
theorem sK_316 {x : Nat} : ok d (mLk kk) n0 Q n c w 316 (some (.ref x) :: ls) st M = ok d (mLk kk) n0 Q n c w 317 (some (.ref x) :: ls) (.ref x :: st) M := ok_r rfl rfl
set_option maxRecDepth 100000 in
theorem sK_317 {l0 l1 l2 l3 : Option Value} {x : Int32} : ok d (mLk kk) n0 Q n c w 317 (l0 :: l1 :: l2 :: l3 :: some (.int x) :: ls) st M = ok d (mLk kk) n0 Q n c w 319 (l0 :: l1 :: l2 :: l3 :: some (.int x) :: ls) (.int x :: st) M := ok_r rfl rfl
set_option maxRecDepth 100000 in
theorem sK_319 : ok d (mLk kk) n0 Q n c w 319 ls st M = ok d (mLk kk) n0 Q n c w 320 ls (.int 1 :: st) M := ok_r rfl (by rw [← ic_1]; rfl)
set_option maxRecDepth 100000 in
theorem sK_320 {x z : Int32} : ok d (mLk kk) n0 Q n c w 320 ls (.int z :: .int x :: st) M = ok d (mLk kk) n0 Q n c w 321 ls (.int (x + z) :: st) M := ok_r rfl rfl
set_option maxRecDepth 100000 in
theorem sK_321 {a : Nat} {i : Int32} : ok d (mLk kk) n0 Q n c w 321 ls (.int i :: .ref a :: st) M = (am_in n M a 1 i ∧ ok d (mLk kk) n0 Q n c w 322 ls (.int (gI M a i.toNatClampNeg) :: st) M) := ok_r rfl rfl
set_option maxRecDepth 100000 in
theorem sK_322 {b : Nat} {v0 : Int32} {a0 : Int32} (hc : c + 0 ≤ 488 + 8 * kk) (hw : w + 0 ≤ 103327 + 64 * kk) : ok d (mLk kk) n0 Q n c w 322 ls [.int a0, .ref b, .int v0] M = (am_ob n b 11 ∧ am_big d mX11_end [.ref b, .int a0] n M (kI fun x M' => ok d (mLk kk) n0 Q n c w 325 ls (.int x :: .int v0 :: []) M')) := ok_vir (y := (mLk kk)) (y' := mX11_end) (pc := 322) (k := 28) (ps := [1377, 1378, 1379, 110, 1380]) (c := c) (w := w) (st := [.int a0, .ref b, .int v0]) (as := [.ref b, .int a0]) (rest := [.int v0]) (b := b) rfl rfl rfl ⟨Nat.le_of_ble_eq_true rfl, Nat.le_of_ble_eq_true rfl, Nat.le_of_ble_eq_true rfl, hc, hw⟩ rfl rfl (am_contI (Or.inr rfl) rfl)
set_option maxRecDepth 100000 in
theorem sK_325 {x z : Int32} : ok d (mLk kk) n0 Q n c w 325 ls (.int z :: .int x :: st) M = ((x = z → ok d (mLk kk) n0 Q n c w 1695 ls st M) ∧ (¬ (x = z) → ok d (mLk kk) n0 Q n c w 328 ls st M)) := ok_ico (pc := 325) (off := 1370) (k := .eq) rfl 1695 (by decide)
set_option maxRecDepth 100000 in
theorem sK_328 : ok d (mLk kk) n0 Q n c w 328 ls st M = ok d (mLk kk) n0 Q n c w 329 ls (.int 0 :: st) M := ok_r rfl (by rw [← ic_0]; rfl)
set_option maxRecDepth 100000 in
theorem sK_329 {x : Int32} (ha : am_ret (mLk kk) n0 n c w) : ok d (mLk kk) n0 Q n c w 329 ls [.int x] M = ((x = 0 ∨ x = 1) ∧ Q (some (.int x)) M) := ok_reZ rfl rfl ha
set_option maxRecDepth 100000 in
theorem sK_330 {l0 : Option Value} {x : Nat} : ok d (mLk kk) n0 Q n c w 330 (l0 :: some (.ref x) :: ls) st M = ok d (mLk kk) n0 Q n c w 331 (l0 :: some (.ref x) :: ls) (.ref x :: st) M := ok_r rfl rfl
set_option maxRecDepth 100000 in
theorem sK_331 {x : Nat} : ok d (mLk kk) n0 Q n c w 331 (some (.ref x) :: ls) st M = ok d (mLk kk) n0 Q n c w 332 (some (.ref x) :: ls) (.ref x :: st) M := ok_r rfl rfl
set_option maxRecDepth 100000 in
theorem sK_332 {l0 l1 l2 l3 : Option Value} {x : Int32} : ok d (mLk kk) n0 Q n c w 332 (l0 :: l1 :: l2 :: l3 :: some (.int x) :: ls) st M = ok d (mLk kk) n0 Q n c w 334 (l0 :: l1 :: l2 :: l3 :: some (.int x) :: ls) (.int x :: st) M := ok_r rfl rfl
set_option maxRecDepth 100000 in
theorem sK_334 : ok d (mLk kk) n0 Q n c w 334 ls st M = ok d (mLk kk) n0 Q n c w 335 ls (.int 1 :: st) M := ok_r rfl (by rw [← ic_1]; rfl)
set_option maxRecDepth 100000 in
theorem sK_335 {x z : Int32} : ok d (mLk kk) n0 Q n c w 335 ls (.int z :: .int x :: st) M = ok d (mLk kk) n0 Q n c w 336 ls (.int (x + z) :: st) M := ok_r rfl rfl
set_option maxRecDepth 100000 in
theorem sK_336 {a : Nat} {i : Int32} : ok d (mLk kk) n0 Q n c w 336 ls (.int i :: .ref a :: st) M = (am_in n M a 1 i ∧ ok d (mLk kk) n0 Q n c w 337 ls (.int (gI M a i.toNatClampNeg) :: st) M) := ok_r rfl rfl
set_option maxRecDepth 100000 in
theorem sK_337 {b : Nat} {a0 : Int32} (hc : c + 0 ≤ 488 + 8 * kk) (hw : w + 0 ≤ 103327 + 64 * kk) : ok d (mLk kk) n0 Q n c w 337 ls [.int a0, .ref b] M = (am_ob n b 10 ∧ am_big d mX10_fault [.ref b, .int a0] n M (kI fun x M' => ok d (mLk kk) n0 Q n c w 340 ls (.int x :: []) M')) := ok_vir (y := (mLk kk)) (y' := mX10_fault) (pc := 337) (k := 29) (ps := [436, 437, 438, 99, 439]) (c := c) (w := w) (st := [.int a0, .ref b]) (as := [.ref b, .int a0]) (rest := []) (b := b) rfl rfl rfl ⟨Nat.le_of_ble_eq_true rfl, Nat.le_of_ble_eq_true rfl, Nat.le_of_ble_eq_true rfl, hc, hw⟩ rfl rfl (am_contI (Or.inl rfl) rfl)
set_option maxRecDepth 100000 in
theorem sK_340 {l0 l1 : Option Value} {x : Nat} : ok d (mLk kk) n0 Q n c w 340 (l0 :: l1 :: some (.ref x) :: ls) st M = ok d (mLk kk) n0 Q n c w 341 (l0 :: l1 :: some (.ref x) :: ls) (.ref x :: st) M := ok_r rfl rfl
set_option maxRecDepth 100000 in
theorem sK_341 {x : Nat} : ok d (mLk kk) n0 Q n c w 341 (some (.ref x) :: ls) st M = ok d (mLk kk) n0 Q n c w 342 (some (.ref x) :: ls) (.ref x :: st) M := ok_r rfl rfl
set_option maxRecDepth 100000 in
theorem sK_342 {l0 l1 l2 l3 : Option Value} {x : Int32} : ok d (mLk kk) n0 Q n c w 342 (l0 :: l1 :: l2 :: l3 :: some (.int x) :: ls) st M = ok d (mLk kk) n0 Q n c w 344 (l0 :: l1 :: l2 :: l3 :: some (.int x) :: ls) (.int x :: st) M := ok_r rfl rfl
set_option maxRecDepth 100000 in
theorem sK_344 : ok d (mLk kk) n0 Q n c w 344 ls st M = ok d (mLk kk) n0 Q n c w 345 ls (.int 1 :: st) M := ok_r rfl (by rw [← ic_1]; rfl)
set_option maxRecDepth 100000 in
theorem sK_345 {x z : Int32} : ok d (mLk kk) n0 Q n c w 345 ls (.int z :: .int x :: st) M = ok d (mLk kk) n0 Q n c w 346 ls (.int (x + z) :: st) M := ok_r rfl rfl
set_option maxRecDepth 100000 in
theorem sK_346 {a : Nat} {i : Int32} : ok d (mLk kk) n0 Q n c w 346 ls (.int i :: .ref a :: st) M = (am_in n M a 1 i ∧ ok d (mLk kk) n0 Q n c w 347 ls (.int (gI M a i.toNatClampNeg) :: st) M) := ok_r rfl rfl
set_option maxRecDepth 100000 in
theorem sK_347 {b : Nat} {v0 : Int32} {a0 : Int32} (hc : c + 0 ≤ 488 + 8 * kk) (hw : w + 0 ≤ 103327 + 64 * kk) : ok d (mLk kk) n0 Q n c w 347 ls [.int a0, .ref b, .int v0] M = (am_ob n b 11 ∧ am_big d mX11_fault [.ref b, .int a0] n M (kI fun x M' => ok d (mLk kk) n0 Q n c w 350 ls (.int x :: .int v0 :: []) M')) := ok_vir (y := (mLk kk)) (y' := mX11_fault) (pc := 347) (k := 33) (ps := [1381, 1382, 1383, 110, 1384]) (c := c) (w := w) (st := [.int a0, .ref b, .int v0]) (as := [.ref b, .int a0]) (rest := [.int v0]) (b := b) rfl rfl rfl ⟨Nat.le_of_ble_eq_true rfl, Nat.le_of_ble_eq_true rfl, Nat.le_of_ble_eq_true rfl, hc, hw⟩ rfl rfl (am_contI (Or.inl rfl) rfl)
set_option maxRecDepth 100000 in
theorem sK_350 {x z : Int32} : ok d (mLk kk) n0 Q n c w 350 ls (.int z :: .int x :: st) M = ((x = z → ok d (mLk kk) n0 Q n c w 1695 ls st M) ∧ (¬ (x = z) → ok d (mLk kk) n0 Q n c w 353 ls st M)) := ok_ico (pc := 350) (off := 1345) (k := .eq) rfl 1695 (by decide)
set_option maxRecDepth 100000 in
theorem sK_353 : ok d (mLk kk) n0 Q n c w 353 ls st M = ok d (mLk kk) n0 Q n c w 354 ls (.int 0 :: st) M := ok_r rfl (by rw [← ic_0]; rfl)
set_option maxRecDepth 100000 in
theorem sK_354 {x : Int32} (ha : am_ret (mLk kk) n0 n c w) : ok d (mLk kk) n0 Q n c w 354 ls [.int x] M = ((x = 0 ∨ x = 1) ∧ Q (some (.int x)) M) := ok_reZ rfl rfl ha
set_option maxRecDepth 100000 in
theorem sK_355 {l0 : Option Value} {x : Nat} : ok d (mLk kk) n0 Q n c w 355 (l0 :: some (.ref x) :: ls) st M = ok d (mLk kk) n0 Q n c w 356 (l0 :: some (.ref x) :: ls) (.ref x :: st) M := ok_r rfl rfl
set_option maxRecDepth 100000 in
theorem sK_356 {x : Nat} : ok d (mLk kk) n0 Q n c w 356 (some (.ref x) :: ls) st M = ok d (mLk kk) n0 Q n c w 357 (some (.ref x) :: ls) (.ref x :: st) M := ok_r rfl rfl
set_option maxRecDepth 100000 in
theorem sK_357 {l0 l1 l2 l3 : Option Value} {x : Int32} : ok d (mLk kk) n0 Q n c w 357 (l0 :: l1 :: l2 :: l3 :: some (.int x) :: ls) st M = ok d (mLk kk) n0 Q n c w 359 (l0 :: l1 :: l2 :: l3 :: some (.int x) :: ls) (.int x :: st) M := ok_r rfl rfl
set_option maxRecDepth 100000 in
theorem sK_359 : ok d (mLk kk) n0 Q n c w 359 ls st M = ok d (mLk kk) n0 Q n c w 360 ls (.int 1 :: st) M := ok_r rfl (by rw [← ic_1]; rfl)
set_option maxRecDepth 100000 in
theorem sK_360 {x z : Int32} : ok d (mLk kk) n0 Q n c w 360 ls (.int z :: .int x :: st) M = ok d (mLk kk) n0 Q n c w 361 ls (.int (x + z) :: st) M := ok_r rfl rfl
set_option maxRecDepth 100000 in
theorem sK_361 {a : Nat} {i : Int32} : ok d (mLk kk) n0 Q n c w 361 ls (.int i :: .ref a :: st) M = (am_in n M a 1 i ∧ ok d (mLk kk) n0 Q n c w 362 ls (.int (gI M a i.toNatClampNeg) :: st) M) := ok_r rfl rfl
set_option maxRecDepth 100000 in
theorem sK_362 {b : Nat} {a0 : Int32} (hc : c + 0 ≤ 488 + 8 * kk) (hw : w + 0 ≤ 103327 + 64 * kk) : ok d (mLk kk) n0 Q n c w 362 ls [.int a0, .ref b] M = (am_ob n b 10 ∧ am_big d mX10_text [.ref b, .int a0] n M (kI fun x M' => ok d (mLk kk) n0 Q n c w 365 ls (.int x :: []) M')) := ok_vir (y := (mLk kk)) (y' := mX10_text) (pc := 362) (k := 34) (ps := [573, 574, 575, 99, 576]) (c := c) (w := w) (st := [.int a0, .ref b]) (as := [.ref b, .int a0]) (rest := []) (b := b) rfl rfl rfl ⟨Nat.le_of_ble_eq_true rfl, Nat.le_of_ble_eq_true rfl, Nat.le_of_ble_eq_true rfl, hc, hw⟩ rfl rfl (am_contI (Or.inl rfl) rfl)
set_option maxRecDepth 100000 in
theorem sK_365 {l0 l1 : Option Value} {x : Nat} : ok d (mLk kk) n0 Q n c w 365 (l0 :: l1 :: some (.ref x) :: ls) st M = ok d (mLk kk) n0 Q n c w 366 (l0 :: l1 :: some (.ref x) :: ls) (.ref x :: st) M := ok_r rfl rfl
set_option maxRecDepth 100000 in
theorem sK_366 {x : Nat} : ok d (mLk kk) n0 Q n c w 366 (some (.ref x) :: ls) st M = ok d (mLk kk) n0 Q n c w 367 (some (.ref x) :: ls) (.ref x :: st) M := ok_r rfl rfl
set_option maxRecDepth 100000 in
theorem sK_367 {l0 l1 l2 l3 : Option Value} {x : Int32} : ok d (mLk kk) n0 Q n c w 367 (l0 :: l1 :: l2 :: l3 :: some (.int x) :: ls) st M = ok d (mLk kk) n0 Q n c w 369 (l0 :: l1 :: l2 :: l3 :: some (.int x) :: ls) (.int x :: st) M := ok_r rfl rfl
set_option maxRecDepth 100000 in
theorem sK_369 : ok d (mLk kk) n0 Q n c w 369 ls st M = ok d (mLk kk) n0 Q n c w 370 ls (.int 1 :: st) M := ok_r rfl (by rw [← ic_1]; rfl)
set_option maxRecDepth 100000 in
theorem sK_370 {x z : Int32} : ok d (mLk kk) n0 Q n c w 370 ls (.int z :: .int x :: st) M = ok d (mLk kk) n0 Q n c w 371 ls (.int (x + z) :: st) M := ok_r rfl rfl
set_option maxRecDepth 100000 in
theorem sK_371 {a : Nat} {i : Int32} : ok d (mLk kk) n0 Q n c w 371 ls (.int i :: .ref a :: st) M = (am_in n M a 1 i ∧ ok d (mLk kk) n0 Q n c w 372 ls (.int (gI M a i.toNatClampNeg) :: st) M) := ok_r rfl rfl
set_option maxRecDepth 100000 in
theorem sK_372 {b : Nat} {v0 : Int32} {a0 : Int32} (hc : c + 0 ≤ 488 + 8 * kk) (hw : w + 0 ≤ 103327 + 64 * kk) : ok d (mLk kk) n0 Q n c w 372 ls [.int a0, .ref b, .int v0] M = (am_ob n b 11 ∧ am_big d mX11_text [.ref b, .int a0] n M (kI fun x M' => ok d (mLk kk) n0 Q n c w 375 ls (.int x :: .int v0 :: []) M')) := ok_vir (y := (mLk kk)) (y' := mX11_text) (pc := 372) (k := 37) (ps := [1561, 1562, 1563, 110, 1564]) (c := c) (w := w) (st := [.int a0, .ref b, .int v0]) (as := [.ref b, .int a0]) (rest := [.int v0]) (b := b) rfl rfl rfl ⟨Nat.le_of_ble_eq_true rfl, Nat.le_of_ble_eq_true rfl, Nat.le_of_ble_eq_true rfl, hc, hw⟩ rfl rfl (am_contI (Or.inl rfl) rfl)
set_option maxRecDepth 100000 in
theorem sK_375 {x z : Int32} : ok d (mLk kk) n0 Q n c w 375 ls (.int z :: .int x :: st) M = ((x = z → ok d (mLk kk) n0 Q n c w 1695 ls st M) ∧ (¬ (x = z) → ok d (mLk kk) n0 Q n c w 378 ls st M)) := ok_ico (pc := 375) (off := 1320) (k := .eq) rfl 1695 (by decide)
set_option maxRecDepth 100000 in
theorem sK_378 : ok d (mLk kk) n0 Q n c w 378 ls st M = ok d (mLk kk) n0 Q n c w 379 ls (.int 0 :: st) M := ok_r rfl (by rw [← ic_0]; rfl)
set_option maxRecDepth 100000 in
theorem sK_379 {x : Int32} (ha : am_ret (mLk kk) n0 n c w) : ok d (mLk kk) n0 Q n c w 379 ls [.int x] M = ((x = 0 ∨ x = 1) ∧ Q (some (.int x)) M) := ok_reZ rfl rfl ha
set_option maxRecDepth 100000 in
theorem sK_380 {l0 : Option Value} {x : Nat} : ok d (mLk kk) n0 Q n c w 380 (l0 :: some (.ref x) :: ls) st M = ok d (mLk kk) n0 Q n c w 381 (l0 :: some (.ref x) :: ls) (.ref x :: st) M := ok_r rfl rfl
set_option maxRecDepth 100000 in
theorem sK_381 {x : Nat} : ok d (mLk kk) n0 Q n c w 381 (some (.ref x) :: ls) st M = ok d (mLk kk) n0 Q n c w 382 (some (.ref x) :: ls) (.ref x :: st) M := ok_r rfl rfl
set_option maxRecDepth 100000 in
theorem sK_382 {l0 l1 l2 l3 : Option Value} {x : Int32} : ok d (mLk kk) n0 Q n c w 382 (l0 :: l1 :: l2 :: l3 :: some (.int x) :: ls) st M = ok d (mLk kk) n0 Q n c w 384 (l0 :: l1 :: l2 :: l3 :: some (.int x) :: ls) (.int x :: st) M := ok_r rfl rfl
set_option maxRecDepth 100000 in
theorem sK_384 : ok d (mLk kk) n0 Q n c w 384 ls st M = ok d (mLk kk) n0 Q n c w 385 ls (.int 1 :: st) M := ok_r rfl (by rw [← ic_1]; rfl)
set_option maxRecDepth 100000 in
theorem sK_385 {x z : Int32} : ok d (mLk kk) n0 Q n c w 385 ls (.int z :: .int x :: st) M = ok d (mLk kk) n0 Q n c w 386 ls (.int (x + z) :: st) M := ok_r rfl rfl
set_option maxRecDepth 100000 in
theorem sK_386 {a : Nat} {i : Int32} : ok d (mLk kk) n0 Q n c w 386 ls (.int i :: .ref a :: st) M = (am_in n M a 1 i ∧ ok d (mLk kk) n0 Q n c w 387 ls (.int (gI M a i.toNatClampNeg) :: st) M) := ok_r rfl rfl
set_option maxRecDepth 100000 in
theorem sK_387 {x : Nat} : ok d (mLk kk) n0 Q n c w 387 (some (.ref x) :: ls) st M = ok d (mLk kk) n0 Q n c w 388 (some (.ref x) :: ls) (.ref x :: st) M := ok_r rfl rfl
set_option maxRecDepth 100000 in
theorem sK_388 {l0 l1 l2 l3 : Option Value} {x : Int32} : ok d (mLk kk) n0 Q n c w 388 (l0 :: l1 :: l2 :: l3 :: some (.int x) :: ls) st M = ok d (mLk kk) n0 Q n c w 390 (l0 :: l1 :: l2 :: l3 :: some (.int x) :: ls) (.int x :: st) M := ok_r rfl rfl
set_option maxRecDepth 100000 in
theorem sK_390 : ok d (mLk kk) n0 Q n c w 390 ls st M = ok d (mLk kk) n0 Q n c w 391 ls (.int 2 :: st) M := ok_r rfl (by rw [← ic_2]; rfl)
set_option maxRecDepth 100000 in
theorem sK_391 {x z : Int32} : ok d (mLk kk) n0 Q n c w 391 ls (.int z :: .int x :: st) M = ok d (mLk kk) n0 Q n c w 392 ls (.int (x + z) :: st) M := ok_r rfl rfl
set_option maxRecDepth 100000 in
theorem sK_392 {a : Nat} {i : Int32} : ok d (mLk kk) n0 Q n c w 392 ls (.int i :: .ref a :: st) M = (am_in n M a 1 i ∧ ok d (mLk kk) n0 Q n c w 393 ls (.int (gI M a i.toNatClampNeg) :: st) M) := ok_r rfl rfl
set_option maxRecDepth 100000 in
theorem sK_393 {l0 l1 l2 : Option Value} {x : Nat} : ok d (mLk kk) n0 Q n c w 393 (l0 :: l1 :: l2 :: some (.ref x) :: ls) st M = ok d (mLk kk) n0 Q n c w 394 (l0 :: l1 :: l2 :: some (.ref x) :: ls) (.ref x :: st) M := ok_r rfl rfl
set_option maxRecDepth 100000 in
theorem sK_394 {a0 : Nat} {a1 : Int32} {a2 : Int32} {a3 : Nat} (hc : c + 8 ≤ 488 + 8 * kk) (hw : w + 64 ≤ 103327 + 64 * kk) : ok d (mLk kk) n0 Q n c w 394 ls [.ref a3, .int a2, .int a1, .ref a0] M = am_big d mL_apprentice [.ref a0, .int a1, .int a2, .ref a3] n M (am_cont mL_apprentice (ok d (mLk kk) n0 Q) n c w 397 ls []) := ok_sta (y := (mLk kk)) (y' := mL_apprentice) (pc := 394) (k := 38) (ps := [1113]) (c := c) (w := w) (st := [.ref a3, .int a2, .int a1, .ref a0]) (as := [.ref a0, .int a1, .int a2, .ref a3]) (rest := []) (kd := 9) rfl rfl (by decide) ⟨Nat.le_of_ble_eq_true rfl, Nat.le_of_ble_eq_true rfl, Nat.le_of_ble_eq_true rfl, hc, hw⟩ rfl rfl rfl
set_option maxRecDepth 100000 in
theorem sK_397 {l0 l1 l2 l3 l4 l5 : Option Value} {x : Int32} : ok d (mLk kk) n0 Q n c w 397 (l0 :: l1 :: l2 :: l3 :: l4 :: l5 :: ls) (.int x :: st) M = ok d (mLk kk) n0 Q n c w 399 (l0 :: l1 :: l2 :: l3 :: am_kl l4 :: some (.int x) :: ls) st M := ok_ist (k := 5) rfl (Or.inl rfl) (Nat.le_of_ble_eq_true rfl) rfl rfl
set_option maxRecDepth 100000 in
theorem sK_399 {l0 l1 : Option Value} {x : Nat} : ok d (mLk kk) n0 Q n c w 399 (l0 :: l1 :: some (.ref x) :: ls) st M = ok d (mLk kk) n0 Q n c w 400 (l0 :: l1 :: some (.ref x) :: ls) (.ref x :: st) M := ok_r rfl rfl
set_option maxRecDepth 100000 in
theorem sK_400 {x : Nat} : ok d (mLk kk) n0 Q n c w 400 (some (.ref x) :: ls) st M = ok d (mLk kk) n0 Q n c w 401 (some (.ref x) :: ls) (.ref x :: st) M := ok_r rfl rfl
set_option maxRecDepth 100000 in
theorem sK_401 {l0 l1 l2 l3 : Option Value} {x : Int32} : ok d (mLk kk) n0 Q n c w 401 (l0 :: l1 :: l2 :: l3 :: some (.int x) :: ls) st M = ok d (mLk kk) n0 Q n c w 403 (l0 :: l1 :: l2 :: l3 :: some (.int x) :: ls) (.int x :: st) M := ok_r rfl rfl
set_option maxRecDepth 100000 in
theorem sK_403 : ok d (mLk kk) n0 Q n c w 403 ls st M = ok d (mLk kk) n0 Q n c w 404 ls (.int 1 :: st) M := ok_r rfl (by rw [← ic_1]; rfl)
set_option maxRecDepth 100000 in
theorem sK_404 {x z : Int32} : ok d (mLk kk) n0 Q n c w 404 ls (.int z :: .int x :: st) M = ok d (mLk kk) n0 Q n c w 405 ls (.int (x + z) :: st) M := ok_r rfl rfl
set_option maxRecDepth 100000 in
theorem sK_405 {a : Nat} {i : Int32} : ok d (mLk kk) n0 Q n c w 405 ls (.int i :: .ref a :: st) M = (am_in n M a 1 i ∧ ok d (mLk kk) n0 Q n c w 406 ls (.int (gI M a i.toNatClampNeg) :: st) M) := ok_r rfl rfl
set_option maxRecDepth 100000 in
theorem sK_406 {x : Nat} : ok d (mLk kk) n0 Q n c w 406 (some (.ref x) :: ls) st M = ok d (mLk kk) n0 Q n c w 407 (some (.ref x) :: ls) (.ref x :: st) M := ok_r rfl rfl
set_option maxRecDepth 100000 in
theorem sK_407 {l0 l1 l2 l3 : Option Value} {x : Int32} : ok d (mLk kk) n0 Q n c w 407 (l0 :: l1 :: l2 :: l3 :: some (.int x) :: ls) st M = ok d (mLk kk) n0 Q n c w 409 (l0 :: l1 :: l2 :: l3 :: some (.int x) :: ls) (.int x :: st) M := ok_r rfl rfl
set_option maxRecDepth 100000 in
theorem sK_409 : ok d (mLk kk) n0 Q n c w 409 ls st M = ok d (mLk kk) n0 Q n c w 410 ls (.int 2 :: st) M := ok_r rfl (by rw [← ic_2]; rfl)
set_option maxRecDepth 100000 in
theorem sK_410 {x z : Int32} : ok d (mLk kk) n0 Q n c w 410 ls (.int z :: .int x :: st) M = ok d (mLk kk) n0 Q n c w 411 ls (.int (x + z) :: st) M := ok_r rfl rfl
set_option maxRecDepth 100000 in
theorem sK_411 {a : Nat} {i : Int32} : ok d (mLk kk) n0 Q n c w 411 ls (.int i :: .ref a :: st) M = (am_in n M a 1 i ∧ ok d (mLk kk) n0 Q n c w 412 ls (.int (gI M a i.toNatClampNeg) :: st) M) := ok_r rfl rfl
set_option maxRecDepth 100000 in
theorem sK_412 {b : Nat} {a0 : Int32} {a1 : Int32} (hc : c + 0 ≤ 488 + 8 * kk) (hw : w + 0 ≤ 103327 + 64 * kk) : ok d (mLk kk) n0 Q n c w 412 ls [.int a1, .int a0, .ref b] M = (am_ob n b 11 ∧ am_big d mX11_apprentice [.ref b, .int a0, .int a1] n M (kI fun x M' => ok d (mLk kk) n0 Q n c w 415 ls (.int x :: []) M')) := ok_vir (y := (mLk kk)) (y' := mX11_apprentice) (pc := 412) (k := 43) (ps := [1566, 1567, 1568, 110, 1569]) (c := c) (w := w) (st := [.int a1, .int a0, .ref b]) (as := [.ref b, .int a0, .int a1]) (rest := []) (b := b) rfl rfl rfl ⟨Nat.le_of_ble_eq_true rfl, Nat.le_of_ble_eq_true rfl, Nat.le_of_ble_eq_true rfl, hc, hw⟩ rfl rfl (am_contI (Or.inl rfl) rfl)
set_option maxRecDepth 100000 in
theorem sK_415 {l0 l1 l2 l3 l4 l5 l6 : Option Value} {x : Int32} : ok d (mLk kk) n0 Q n c w 415 (l0 :: l1 :: l2 :: l3 :: l4 :: l5 :: l6 :: ls) (.int x :: st) M = ok d (mLk kk) n0 Q n c w 417 (l0 :: l1 :: l2 :: l3 :: l4 :: am_kl l5 :: some (.int x) :: ls) st M := ok_ist (k := 6) rfl (Or.inl rfl) (Nat.le_of_ble_eq_true rfl) rfl rfl
set_option maxRecDepth 100000 in
theorem sK_417 {l0 l1 : Option Value} {x : Nat} : ok d (mLk kk) n0 Q n c w 417 (l0 :: l1 :: some (.ref x) :: ls) st M = ok d (mLk kk) n0 Q n c w 418 (l0 :: l1 :: some (.ref x) :: ls) (.ref x :: st) M := ok_r rfl rfl
set_option maxRecDepth 100000 in
theorem sK_418 {b : Nat}  (hc : c + 0 ≤ 488 + 8 * kk) (hw : w + 0 ≤ 103327 + 64 * kk) : ok d (mLk kk) n0 Q n c w 418 ls [.ref b] M = (am_ob n b 11 ∧ am_big d mX11_thrown [.ref b] n M (kI fun x M' => ok d (mLk kk) n0 Q n c w 421 ls (.int x :: []) M')) := ok_vir (y := (mLk kk)) (y' := mX11_thrown) (pc := 418) (k := 44) (ps := [1362, 1363, 1364, 110, 1365]) (c := c) (w := w) (st := [.ref b]) (as := [.ref b]) (rest := []) (b := b) rfl rfl rfl ⟨Nat.le_of_ble_eq_true rfl, Nat.le_of_ble_eq_true rfl, Nat.le_of_ble_eq_true rfl, hc, hw⟩ rfl rfl (am_contI (Or.inl rfl) rfl)
set_option maxRecDepth 100000 in
theorem sK_421 {l0 l1 l2 l3 l4 : Option Value} {x : Int32} : ok d (mLk kk) n0 Q n c w 421 (l0 :: l1 :: l2 :: l3 :: l4 :: some (.int x) :: ls) st M = ok d (mLk kk) n0 Q n c w 423 (l0 :: l1 :: l2 :: l3 :: l4 :: some (.int x) :: ls) (.int x :: st) M := ok_r rfl rfl
set_option maxRecDepth 100000 in
theorem sK_423 {x z : Int32} : ok d (mLk kk) n0 Q n c w 423 ls (.int z :: .int x :: st) M = ((x = z → ok d (mLk kk) n0 Q n c w 428 ls st M) ∧ (¬ (x = z) → ok d (mLk kk) n0 Q n c w 426 ls st M)) := ok_ico (pc := 423) (off := 5) (k := .eq) rfl 428 (by decide)
set_option maxRecDepth 100000 in
theorem sK_426 : ok d (mLk kk) n0 Q n c w 426 ls st M = ok d (mLk kk) n0 Q n c w 427 ls (.int 0 :: st) M := ok_r rfl (by rw [← ic_0]; rfl)
set_option maxRecDepth 100000 in
theorem sK_427 {x : Int32} (ha : am_ret (mLk kk) n0 n c w) : ok d (mLk kk) n0 Q n c w 427 ls [.int x] M = ((x = 0 ∨ x = 1) ∧ Q (some (.int x)) M) := ok_reZ rfl rfl ha
set_option maxRecDepth 100000 in
theorem sK_428 {l0 l1 l2 l3 l4 : Option Value} {x : Int32} : ok d (mLk kk) n0 Q n c w 428 (l0 :: l1 :: l2 :: l3 :: l4 :: some (.int x) :: ls) st M = ok d (mLk kk) n0 Q n c w 430 (l0 :: l1 :: l2 :: l3 :: l4 :: some (.int x) :: ls) (.int x :: st) M := ok_r rfl rfl
set_option maxRecDepth 100000 in
theorem sK_430 {x : Int32} : ok d (mLk kk) n0 Q n c w 430 ls (.int x :: st) M = ((¬ x = 0 → ok d (mLk kk) n0 Q n c w 445 ls st M) ∧ (¬ (¬ x = 0) → ok d (mLk kk) n0 Q n c w 433 ls st M)) := ok_ifc (pc := 430) (off := 15) (k := .ne) rfl 445 (by decide)
set_option maxRecDepth 100000 in
theorem sK_433 {l0 l1 l2 : Option Value} {x : Nat} : ok d (mLk kk) n0 Q n c w 433 (l0 :: l1 :: l2 :: some (.ref x) :: ls) st M = ok d (mLk kk) n0 Q n c w 434 (l0 :: l1 :: l2 :: some (.ref x) :: ls) (.ref x :: st) M := ok_r rfl rfl
set_option maxRecDepth 100000 in
theorem sK_434 : ok d (mLk kk) n0 Q n c w 434 ls st M = ok d (mLk kk) n0 Q n c w 435 ls (.int 0 :: st) M := ok_r rfl (by rw [← ic_0]; rfl)
set_option maxRecDepth 100000 in
theorem sK_435 {a : Nat} {i : Int32} : ok d (mLk kk) n0 Q n c w 435 ls (.int i :: .ref a :: st) M = (am_iw n a 4 i ∧ ok d (mLk kk) n0 Q n c w 436 ls (.long (gL M a i.toNatClampNeg) :: st) M) := ok_r rfl rfl
set_option maxRecDepth 100000 in
theorem sK_436 {l0 l1 l2 l3 l4 l5 : Option Value} {x : Int32} : ok d (mLk kk) n0 Q n c w 436 (l0 :: l1 :: l2 :: l3 :: l4 :: l5 :: some (.int x) :: ls) st M = ok d (mLk kk) n0 Q n c w 438 (l0 :: l1 :: l2 :: l3 :: l4 :: l5 :: some (.int x) :: ls) (.int x :: st) M := ok_r rfl rfl
set_option maxRecDepth 100000 in
theorem sK_438 {x : Int32} : ok d (mLk kk) n0 Q n c w 438 ls (.int x :: st) M = ok d (mLk kk) n0 Q n c w 439 ls (.long x.toInt64 :: st) M := ok_r rfl rfl
set_option maxRecDepth 100000 in
theorem sK_439 {x z : Int64} : ok d (mLk kk) n0 Q n c w 439 ls (.long z :: .long x :: st) M = ok d (mLk kk) n0 Q n c w 440 ls (.int (lg_cmp x z) :: st) M := ok_r rfl rfl
set_option maxRecDepth 100000 in
theorem sK_440 {x : Int32} : ok d (mLk kk) n0 Q n c w 440 ls (.int x :: st) M = ((x = 0 → ok d (mLk kk) n0 Q n c w 445 ls st M) ∧ (¬ (x = 0) → ok d (mLk kk) n0 Q n c w 443 ls st M)) := ok_ifc (pc := 440) (off := 5) (k := .eq) rfl 445 (by decide)
set_option maxRecDepth 100000 in
theorem sK_443 : ok d (mLk kk) n0 Q n c w 443 ls st M = ok d (mLk kk) n0 Q n c w 444 ls (.int 0 :: st) M := ok_r rfl (by rw [← ic_0]; rfl)
set_option maxRecDepth 100000 in
theorem sK_444 {x : Int32} (ha : am_ret (mLk kk) n0 n c w) : ok d (mLk kk) n0 Q n c w 444 ls [.int x] M = ((x = 0 ∨ x = 1) ∧ Q (some (.int x)) M) := ok_reZ rfl rfl ha
set_option maxRecDepth 100000 in
theorem sK_445 : ok d (mLk kk) n0 Q n c w 445 ls st M = ok d (mLk kk) n0 Q n c w 1695 ls st M := ok_got (pc := 445) (off := 1250) rfl 1695 (by decide)
set_option maxRecDepth 100000 in
theorem sK_448 {l0 : Option Value} {x : Nat} : ok d (mLk kk) n0 Q n c w 448 (l0 :: some (.ref x) :: ls) st M = ok d (mLk kk) n0 Q n c w 449 (l0 :: some (.ref x) :: ls) (.ref x :: st) M := ok_r rfl rfl
set_option maxRecDepth 100000 in
theorem sK_449 {x : Nat} : ok d (mLk kk) n0 Q n c w 449 (some (.ref x) :: ls) st M = ok d (mLk kk) n0 Q n c w 450 (some (.ref x) :: ls) (.ref x :: st) M := ok_r rfl rfl
set_option maxRecDepth 100000 in
theorem sK_450 {l0 l1 l2 l3 : Option Value} {x : Int32} : ok d (mLk kk) n0 Q n c w 450 (l0 :: l1 :: l2 :: l3 :: some (.int x) :: ls) st M = ok d (mLk kk) n0 Q n c w 452 (l0 :: l1 :: l2 :: l3 :: some (.int x) :: ls) (.int x :: st) M := ok_r rfl rfl
set_option maxRecDepth 100000 in
theorem sK_452 : ok d (mLk kk) n0 Q n c w 452 ls st M = ok d (mLk kk) n0 Q n c w 453 ls (.int 1 :: st) M := ok_r rfl (by rw [← ic_1]; rfl)
set_option maxRecDepth 100000 in
theorem sK_453 {x z : Int32} : ok d (mLk kk) n0 Q n c w 453 ls (.int z :: .int x :: st) M = ok d (mLk kk) n0 Q n c w 454 ls (.int (x + z) :: st) M := ok_r rfl rfl
set_option maxRecDepth 100000 in
theorem sK_454 {a : Nat} {i : Int32} : ok d (mLk kk) n0 Q n c w 454 ls (.int i :: .ref a :: st) M = (am_in n M a 1 i ∧ ok d (mLk kk) n0 Q n c w 455 ls (.int (gI M a i.toNatClampNeg) :: st) M) := ok_r rfl rfl
set_option maxRecDepth 100000 in
theorem sK_455 {x : Nat} : ok d (mLk kk) n0 Q n c w 455 (some (.ref x) :: ls) st M = ok d (mLk kk) n0 Q n c w 456 (some (.ref x) :: ls) (.ref x :: st) M := ok_r rfl rfl
set_option maxRecDepth 100000 in
theorem sK_456 {l0 l1 l2 l3 : Option Value} {x : Int32} : ok d (mLk kk) n0 Q n c w 456 (l0 :: l1 :: l2 :: l3 :: some (.int x) :: ls) st M = ok d (mLk kk) n0 Q n c w 458 (l0 :: l1 :: l2 :: l3 :: some (.int x) :: ls) (.int x :: st) M := ok_r rfl rfl
set_option maxRecDepth 100000 in
theorem sK_458 : ok d (mLk kk) n0 Q n c w 458 ls st M = ok d (mLk kk) n0 Q n c w 459 ls (.int 2 :: st) M := ok_r rfl (by rw [← ic_2]; rfl)
set_option maxRecDepth 100000 in
theorem sK_459 {x z : Int32} : ok d (mLk kk) n0 Q n c w 459 ls (.int z :: .int x :: st) M = ok d (mLk kk) n0 Q n c w 460 ls (.int (x + z) :: st) M := ok_r rfl rfl
set_option maxRecDepth 100000 in
theorem sK_460 {a : Nat} {i : Int32} : ok d (mLk kk) n0 Q n c w 460 ls (.int i :: .ref a :: st) M = (am_in n M a 1 i ∧ ok d (mLk kk) n0 Q n c w 461 ls (.int (gI M a i.toNatClampNeg) :: st) M) := ok_r rfl rfl
set_option maxRecDepth 100000 in
theorem sK_461 {b : Nat} {a0 : Int32} {a1 : Int32} (hc : c + 0 ≤ 488 + 8 * kk) (hw : w + 0 ≤ 103327 + 64 * kk) : ok d (mLk kk) n0 Q n c w 461 ls [.int a1, .int a0, .ref b] M = (am_ob n b 10 ∧ am_big d mX10_shape [.ref b, .int a0, .int a1] n M (kI fun x M' => ok d (mLk kk) n0 Q n c w 464 ls (.int x :: []) M')) := ok_vir (y := (mLk kk)) (y' := mX10_shape) (pc := 461) (k := 48) (ps := [611, 612, 613, 99, 614]) (c := c) (w := w) (st := [.int a1, .int a0, .ref b]) (as := [.ref b, .int a0, .int a1]) (rest := []) (b := b) rfl rfl rfl ⟨Nat.le_of_ble_eq_true rfl, Nat.le_of_ble_eq_true rfl, Nat.le_of_ble_eq_true rfl, hc, hw⟩ rfl rfl (am_contI (Or.inl rfl) rfl)
set_option maxRecDepth 100000 in
theorem sK_464 {l0 l1 : Option Value} {x : Nat} : ok d (mLk kk) n0 Q n c w 464 (l0 :: l1 :: some (.ref x) :: ls) st M = ok d (mLk kk) n0 Q n c w 465 (l0 :: l1 :: some (.ref x) :: ls) (.ref x :: st) M := ok_r rfl rfl
set_option maxRecDepth 100000 in
theorem sK_465 {x : Nat} : ok d (mLk kk) n0 Q n c w 465 (some (.ref x) :: ls) st M = ok d (mLk kk) n0 Q n c w 466 (some (.ref x) :: ls) (.ref x :: st) M := ok_r rfl rfl
set_option maxRecDepth 100000 in
theorem sK_466 {l0 l1 l2 l3 : Option Value} {x : Int32} : ok d (mLk kk) n0 Q n c w 466 (l0 :: l1 :: l2 :: l3 :: some (.int x) :: ls) st M = ok d (mLk kk) n0 Q n c w 468 (l0 :: l1 :: l2 :: l3 :: some (.int x) :: ls) (.int x :: st) M := ok_r rfl rfl
set_option maxRecDepth 100000 in
theorem sK_468 : ok d (mLk kk) n0 Q n c w 468 ls st M = ok d (mLk kk) n0 Q n c w 469 ls (.int 1 :: st) M := ok_r rfl (by rw [← ic_1]; rfl)
set_option maxRecDepth 100000 in
theorem sK_469 {x z : Int32} : ok d (mLk kk) n0 Q n c w 469 ls (.int z :: .int x :: st) M = ok d (mLk kk) n0 Q n c w 470 ls (.int (x + z) :: st) M := ok_r rfl rfl
set_option maxRecDepth 100000 in
theorem sK_470 {a : Nat} {i : Int32} : ok d (mLk kk) n0 Q n c w 470 ls (.int i :: .ref a :: st) M = (am_in n M a 1 i ∧ ok d (mLk kk) n0 Q n c w 471 ls (.int (gI M a i.toNatClampNeg) :: st) M) := ok_r rfl rfl
set_option maxRecDepth 100000 in
theorem sK_471 {x : Nat} : ok d (mLk kk) n0 Q n c w 471 (some (.ref x) :: ls) st M = ok d (mLk kk) n0 Q n c w 472 (some (.ref x) :: ls) (.ref x :: st) M := ok_r rfl rfl
set_option maxRecDepth 100000 in
theorem sK_472 {l0 l1 l2 l3 : Option Value} {x : Int32} : ok d (mLk kk) n0 Q n c w 472 (l0 :: l1 :: l2 :: l3 :: some (.int x) :: ls) st M = ok d (mLk kk) n0 Q n c w 474 (l0 :: l1 :: l2 :: l3 :: some (.int x) :: ls) (.int x :: st) M := ok_r rfl rfl
set_option maxRecDepth 100000 in
theorem sK_474 : ok d (mLk kk) n0 Q n c w 474 ls st M = ok d (mLk kk) n0 Q n c w 475 ls (.int 2 :: st) M := ok_r rfl (by rw [← ic_2]; rfl)
set_option maxRecDepth 100000 in
theorem sK_475 {x z : Int32} : ok d (mLk kk) n0 Q n c w 475 ls (.int z :: .int x :: st) M = ok d (mLk kk) n0 Q n c w 476 ls (.int (x + z) :: st) M := ok_r rfl rfl
set_option maxRecDepth 100000 in
theorem sK_476 {a : Nat} {i : Int32} : ok d (mLk kk) n0 Q n c w 476 ls (.int i :: .ref a :: st) M = (am_in n M a 1 i ∧ ok d (mLk kk) n0 Q n c w 477 ls (.int (gI M a i.toNatClampNeg) :: st) M) := ok_r rfl rfl
set_option maxRecDepth 100000 in
theorem sK_477 {b : Nat} {v0 : Int32} {a0 : Int32} {a1 : Int32} (hc : c + 0 ≤ 488 + 8 * kk) (hw : w + 0 ≤ 103327 + 64 * kk) : ok d (mLk kk) n0 Q n c w 477 ls [.int a1, .int a0, .ref b, .int v0] M = (am_ob n b 11 ∧ am_big d mX11_shape [.ref b, .int a0, .int a1] n M (kI fun x M' => ok d (mLk kk) n0 Q n c w 480 ls (.int x :: .int v0 :: []) M')) := ok_vir (y := (mLk kk)) (y' := mX11_shape) (pc := 477) (k := 51) (ps := [1574, 1575, 1576, 110, 1577]) (c := c) (w := w) (st := [.int a1, .int a0, .ref b, .int v0]) (as := [.ref b, .int a0, .int a1]) (rest := [.int v0]) (b := b) rfl rfl rfl ⟨Nat.le_of_ble_eq_true rfl, Nat.le_of_ble_eq_true rfl, Nat.le_of_ble_eq_true rfl, hc, hw⟩ rfl rfl (am_contI (Or.inl rfl) rfl)
set_option maxRecDepth 100000 in
theorem sK_480 {x z : Int32} : ok d (mLk kk) n0 Q n c w 480 ls (.int z :: .int x :: st) M = ((x = z → ok d (mLk kk) n0 Q n c w 1695 ls st M) ∧ (¬ (x = z) → ok d (mLk kk) n0 Q n c w 483 ls st M)) := ok_ico (pc := 480) (off := 1215) (k := .eq) rfl 1695 (by decide)
set_option maxRecDepth 100000 in
theorem sK_483 : ok d (mLk kk) n0 Q n c w 483 ls st M = ok d (mLk kk) n0 Q n c w 484 ls (.int 0 :: st) M := ok_r rfl (by rw [← ic_0]; rfl)
set_option maxRecDepth 100000 in
theorem sK_484 {x : Int32} (ha : am_ret (mLk kk) n0 n c w) : ok d (mLk kk) n0 Q n c w 484 ls [.int x] M = ((x = 0 ∨ x = 1) ∧ Q (some (.int x)) M) := ok_reZ rfl rfl ha
set_option maxRecDepth 100000 in
theorem sK_485 {l0 : Option Value} {x : Nat} : ok d (mLk kk) n0 Q n c w 485 (l0 :: some (.ref x) :: ls) st M = ok d (mLk kk) n0 Q n c w 486 (l0 :: some (.ref x) :: ls) (.ref x :: st) M := ok_r rfl rfl
set_option maxRecDepth 100000 in
theorem sK_486 {x : Nat} : ok d (mLk kk) n0 Q n c w 486 (some (.ref x) :: ls) st M = ok d (mLk kk) n0 Q n c w 487 (some (.ref x) :: ls) (.ref x :: st) M := ok_r rfl rfl
set_option maxRecDepth 100000 in
theorem sK_487 {l0 l1 l2 l3 : Option Value} {x : Int32} : ok d (mLk kk) n0 Q n c w 487 (l0 :: l1 :: l2 :: l3 :: some (.int x) :: ls) st M = ok d (mLk kk) n0 Q n c w 489 (l0 :: l1 :: l2 :: l3 :: some (.int x) :: ls) (.int x :: st) M := ok_r rfl rfl
set_option maxRecDepth 100000 in
theorem sK_489 : ok d (mLk kk) n0 Q n c w 489 ls st M = ok d (mLk kk) n0 Q n c w 490 ls (.int 1 :: st) M := ok_r rfl (by rw [← ic_1]; rfl)
set_option maxRecDepth 100000 in
theorem sK_490 {x z : Int32} : ok d (mLk kk) n0 Q n c w 490 ls (.int z :: .int x :: st) M = ok d (mLk kk) n0 Q n c w 491 ls (.int (x + z) :: st) M := ok_r rfl rfl
set_option maxRecDepth 100000 in
theorem sK_491 {a : Nat} {i : Int32} : ok d (mLk kk) n0 Q n c w 491 ls (.int i :: .ref a :: st) M = (am_in n M a 1 i ∧ ok d (mLk kk) n0 Q n c w 492 ls (.int (gI M a i.toNatClampNeg) :: st) M) := ok_r rfl rfl
set_option maxRecDepth 100000 in
theorem sK_492 {x : Nat} : ok d (mLk kk) n0 Q n c w 492 (some (.ref x) :: ls) st M = ok d (mLk kk) n0 Q n c w 493 (some (.ref x) :: ls) (.ref x :: st) M := ok_r rfl rfl
set_option maxRecDepth 100000 in
theorem sK_493 {l0 l1 l2 l3 : Option Value} {x : Int32} : ok d (mLk kk) n0 Q n c w 493 (l0 :: l1 :: l2 :: l3 :: some (.int x) :: ls) st M = ok d (mLk kk) n0 Q n c w 495 (l0 :: l1 :: l2 :: l3 :: some (.int x) :: ls) (.int x :: st) M := ok_r rfl rfl
set_option maxRecDepth 100000 in
theorem sK_495 : ok d (mLk kk) n0 Q n c w 495 ls st M = ok d (mLk kk) n0 Q n c w 496 ls (.int 2 :: st) M := ok_r rfl (by rw [← ic_2]; rfl)
set_option maxRecDepth 100000 in
theorem sK_496 {x z : Int32} : ok d (mLk kk) n0 Q n c w 496 ls (.int z :: .int x :: st) M = ok d (mLk kk) n0 Q n c w 497 ls (.int (x + z) :: st) M := ok_r rfl rfl
set_option maxRecDepth 100000 in
theorem sK_497 {a : Nat} {i : Int32} : ok d (mLk kk) n0 Q n c w 497 ls (.int i :: .ref a :: st) M = (am_in n M a 1 i ∧ ok d (mLk kk) n0 Q n c w 498 ls (.int (gI M a i.toNatClampNeg) :: st) M) := ok_r rfl rfl
set_option maxRecDepth 100000 in
theorem sK_498 {b : Nat} {a0 : Int32} {a1 : Int32} (hc : c + 0 ≤ 488 + 8 * kk) (hw : w + 0 ≤ 103327 + 64 * kk) : ok d (mLk kk) n0 Q n c w 498 ls [.int a1, .int a0, .ref b] M = (am_ob n b 10 ∧ am_big d mX10_deed [.ref b, .int a0, .int a1] n M (kI fun x M' => ok d (mLk kk) n0 Q n c w 501 ls (.int x :: []) M')) := ok_vir (y := (mLk kk)) (y' := mX10_deed) (pc := 498) (k := 52) (ps := [636, 637, 638, 99, 639]) (c := c) (w := w) (st := [.int a1, .int a0, .ref b]) (as := [.ref b, .int a0, .int a1]) (rest := []) (b := b) rfl rfl rfl ⟨Nat.le_of_ble_eq_true rfl, Nat.le_of_ble_eq_true rfl, Nat.le_of_ble_eq_true rfl, hc, hw⟩ rfl rfl (am_contI (Or.inl rfl) rfl)
set_option maxRecDepth 100000 in
theorem sK_501 {l0 l1 : Option Value} {x : Nat} : ok d (mLk kk) n0 Q n c w 501 (l0 :: l1 :: some (.ref x) :: ls) st M = ok d (mLk kk) n0 Q n c w 502 (l0 :: l1 :: some (.ref x) :: ls) (.ref x :: st) M := ok_r rfl rfl
set_option maxRecDepth 100000 in
theorem sK_502 {x : Nat} : ok d (mLk kk) n0 Q n c w 502 (some (.ref x) :: ls) st M = ok d (mLk kk) n0 Q n c w 503 (some (.ref x) :: ls) (.ref x :: st) M := ok_r rfl rfl
set_option maxRecDepth 100000 in
theorem sK_503 {l0 l1 l2 l3 : Option Value} {x : Int32} : ok d (mLk kk) n0 Q n c w 503 (l0 :: l1 :: l2 :: l3 :: some (.int x) :: ls) st M = ok d (mLk kk) n0 Q n c w 505 (l0 :: l1 :: l2 :: l3 :: some (.int x) :: ls) (.int x :: st) M := ok_r rfl rfl
set_option maxRecDepth 100000 in
theorem sK_505 : ok d (mLk kk) n0 Q n c w 505 ls st M = ok d (mLk kk) n0 Q n c w 506 ls (.int 1 :: st) M := ok_r rfl (by rw [← ic_1]; rfl)
set_option maxRecDepth 100000 in
theorem sK_506 {x z : Int32} : ok d (mLk kk) n0 Q n c w 506 ls (.int z :: .int x :: st) M = ok d (mLk kk) n0 Q n c w 507 ls (.int (x + z) :: st) M := ok_r rfl rfl
set_option maxRecDepth 100000 in
theorem sK_507 {a : Nat} {i : Int32} : ok d (mLk kk) n0 Q n c w 507 ls (.int i :: .ref a :: st) M = (am_in n M a 1 i ∧ ok d (mLk kk) n0 Q n c w 508 ls (.int (gI M a i.toNatClampNeg) :: st) M) := ok_r rfl rfl
set_option maxRecDepth 100000 in
theorem sK_508 {x : Nat} : ok d (mLk kk) n0 Q n c w 508 (some (.ref x) :: ls) st M = ok d (mLk kk) n0 Q n c w 509 (some (.ref x) :: ls) (.ref x :: st) M := ok_r rfl rfl
set_option maxRecDepth 100000 in
theorem sK_509 {l0 l1 l2 l3 : Option Value} {x : Int32} : ok d (mLk kk) n0 Q n c w 509 (l0 :: l1 :: l2 :: l3 :: some (.int x) :: ls) st M = ok d (mLk kk) n0 Q n c w 511 (l0 :: l1 :: l2 :: l3 :: some (.int x) :: ls) (.int x :: st) M := ok_r rfl rfl
set_option maxRecDepth 100000 in
theorem sK_511 : ok d (mLk kk) n0 Q n c w 511 ls st M = ok d (mLk kk) n0 Q n c w 512 ls (.int 2 :: st) M := ok_r rfl (by rw [← ic_2]; rfl)
set_option maxRecDepth 100000 in
theorem sK_512 {x z : Int32} : ok d (mLk kk) n0 Q n c w 512 ls (.int z :: .int x :: st) M = ok d (mLk kk) n0 Q n c w 513 ls (.int (x + z) :: st) M := ok_r rfl rfl
set_option maxRecDepth 100000 in
theorem sK_513 {a : Nat} {i : Int32} : ok d (mLk kk) n0 Q n c w 513 ls (.int i :: .ref a :: st) M = (am_in n M a 1 i ∧ ok d (mLk kk) n0 Q n c w 514 ls (.int (gI M a i.toNatClampNeg) :: st) M) := ok_r rfl rfl
set_option maxRecDepth 100000 in
theorem sK_514 {b : Nat} {v0 : Int32} {a0 : Int32} {a1 : Int32} (hc : c + 0 ≤ 488 + 8 * kk) (hw : w + 0 ≤ 103327 + 64 * kk) : ok d (mLk kk) n0 Q n c w 514 ls [.int a1, .int a0, .ref b, .int v0] M = (am_ob n b 11 ∧ am_big d mX11_deed [.ref b, .int a0, .int a1] n M (kI fun x M' => ok d (mLk kk) n0 Q n c w 517 ls (.int x :: .int v0 :: []) M')) := ok_vir (y := (mLk kk)) (y' := mX11_deed) (pc := 514) (k := 55) (ps := [1590, 1591, 1592, 110, 1593]) (c := c) (w := w) (st := [.int a1, .int a0, .ref b, .int v0]) (as := [.ref b, .int a0, .int a1]) (rest := [.int v0]) (b := b) rfl rfl rfl ⟨Nat.le_of_ble_eq_true rfl, Nat.le_of_ble_eq_true rfl, Nat.le_of_ble_eq_true rfl, hc, hw⟩ rfl rfl (am_contI (Or.inl rfl) rfl)
set_option maxRecDepth 100000 in
theorem sK_517 {x z : Int32} : ok d (mLk kk) n0 Q n c w 517 ls (.int z :: .int x :: st) M = ((x = z → ok d (mLk kk) n0 Q n c w 1695 ls st M) ∧ (¬ (x = z) → ok d (mLk kk) n0 Q n c w 520 ls st M)) := ok_ico (pc := 517) (off := 1178) (k := .eq) rfl 1695 (by decide)
set_option maxRecDepth 100000 in
theorem sK_520 : ok d (mLk kk) n0 Q n c w 520 ls st M = ok d (mLk kk) n0 Q n c w 521 ls (.int 0 :: st) M := ok_r rfl (by rw [← ic_0]; rfl)
set_option maxRecDepth 100000 in
theorem sK_521 {x : Int32} (ha : am_ret (mLk kk) n0 n c w) : ok d (mLk kk) n0 Q n c w 521 ls [.int x] M = ((x = 0 ∨ x = 1) ∧ Q (some (.int x)) M) := ok_reZ rfl rfl ha
set_option maxRecDepth 100000 in
theorem sK_522 {l0 : Option Value} {x : Nat} : ok d (mLk kk) n0 Q n c w 522 (l0 :: some (.ref x) :: ls) st M = ok d (mLk kk) n0 Q n c w 523 (l0 :: some (.ref x) :: ls) (.ref x :: st) M := ok_r rfl rfl
set_option maxRecDepth 100000 in
theorem sK_523 {x : Nat} : ok d (mLk kk) n0 Q n c w 523 (some (.ref x) :: ls) st M = ok d (mLk kk) n0 Q n c w 524 (some (.ref x) :: ls) (.ref x :: st) M := ok_r rfl rfl
set_option maxRecDepth 100000 in
theorem sK_524 {l0 l1 l2 l3 : Option Value} {x : Int32} : ok d (mLk kk) n0 Q n c w 524 (l0 :: l1 :: l2 :: l3 :: some (.int x) :: ls) st M = ok d (mLk kk) n0 Q n c w 526 (l0 :: l1 :: l2 :: l3 :: some (.int x) :: ls) (.int x :: st) M := ok_r rfl rfl
set_option maxRecDepth 100000 in
theorem sK_526 : ok d (mLk kk) n0 Q n c w 526 ls st M = ok d (mLk kk) n0 Q n c w 527 ls (.int 1 :: st) M := ok_r rfl (by rw [← ic_1]; rfl)
set_option maxRecDepth 100000 in
theorem sK_527 {x z : Int32} : ok d (mLk kk) n0 Q n c w 527 ls (.int z :: .int x :: st) M = ok d (mLk kk) n0 Q n c w 528 ls (.int (x + z) :: st) M := ok_r rfl rfl
set_option maxRecDepth 100000 in
theorem sK_528 {a : Nat} {i : Int32} : ok d (mLk kk) n0 Q n c w 528 ls (.int i :: .ref a :: st) M = (am_in n M a 1 i ∧ ok d (mLk kk) n0 Q n c w 529 ls (.int (gI M a i.toNatClampNeg) :: st) M) := ok_r rfl rfl
set_option maxRecDepth 100000 in
theorem sK_529 {b : Nat} {a0 : Int32} (hc : c + 0 ≤ 488 + 8 * kk) (hw : w + 0 ≤ 103327 + 64 * kk) : ok d (mLk kk) n0 Q n c w 529 ls [.int a0, .ref b] M = (am_ob n b 10 ∧ am_big d mX10_law [.ref b, .int a0] n M (kI fun x M' => ok d (mLk kk) n0 Q n c w 532 ls (.int x :: []) M')) := ok_vir (y := (mLk kk)) (y' := mX10_law) (pc := 529) (k := 56) (ps := [648, 649, 650, 99, 651]) (c := c) (w := w) (st := [.int a0, .ref b]) (as := [.ref b, .int a0]) (rest := []) (b := b) rfl rfl rfl ⟨Nat.le_of_ble_eq_true rfl, Nat.le_of_ble_eq_true rfl, Nat.le_of_ble_eq_true rfl, hc, hw⟩ rfl rfl (am_contI (Or.inr rfl) rfl)
set_option maxRecDepth 100000 in
theorem sK_532 {l0 l1 : Option Value} {x : Nat} : ok d (mLk kk) n0 Q n c w 532 (l0 :: l1 :: some (.ref x) :: ls) st M = ok d (mLk kk) n0 Q n c w 533 (l0 :: l1 :: some (.ref x) :: ls) (.ref x :: st) M := ok_r rfl rfl
set_option maxRecDepth 100000 in
theorem sK_533 {x : Nat} : ok d (mLk kk) n0 Q n c w 533 (some (.ref x) :: ls) st M = ok d (mLk kk) n0 Q n c w 534 (some (.ref x) :: ls) (.ref x :: st) M := ok_r rfl rfl
set_option maxRecDepth 100000 in
theorem sK_534 {l0 l1 l2 l3 : Option Value} {x : Int32} : ok d (mLk kk) n0 Q n c w 534 (l0 :: l1 :: l2 :: l3 :: some (.int x) :: ls) st M = ok d (mLk kk) n0 Q n c w 536 (l0 :: l1 :: l2 :: l3 :: some (.int x) :: ls) (.int x :: st) M := ok_r rfl rfl
set_option maxRecDepth 100000 in
theorem sK_536 : ok d (mLk kk) n0 Q n c w 536 ls st M = ok d (mLk kk) n0 Q n c w 537 ls (.int 1 :: st) M := ok_r rfl (by rw [← ic_1]; rfl)
set_option maxRecDepth 100000 in
theorem sK_537 {x z : Int32} : ok d (mLk kk) n0 Q n c w 537 ls (.int z :: .int x :: st) M = ok d (mLk kk) n0 Q n c w 538 ls (.int (x + z) :: st) M := ok_r rfl rfl
set_option maxRecDepth 100000 in
theorem sK_538 {a : Nat} {i : Int32} : ok d (mLk kk) n0 Q n c w 538 ls (.int i :: .ref a :: st) M = (am_in n M a 1 i ∧ ok d (mLk kk) n0 Q n c w 539 ls (.int (gI M a i.toNatClampNeg) :: st) M) := ok_r rfl rfl
set_option maxRecDepth 100000 in
theorem sK_539 {b : Nat} {v0 : Int32} {a0 : Int32} (hc : c + 0 ≤ 488 + 8 * kk) (hw : w + 0 ≤ 103327 + 64 * kk) : ok d (mLk kk) n0 Q n c w 539 ls [.int a0, .ref b, .int v0] M = (am_ob n b 11 ∧ am_big d mX11_law [.ref b, .int a0] n M (kI fun x M' => ok d (mLk kk) n0 Q n c w 542 ls (.int x :: .int v0 :: []) M')) := ok_vir (y := (mLk kk)) (y' := mX11_law) (pc := 539) (k := 59) (ps := [1598, 1599, 1600, 110, 1601]) (c := c) (w := w) (st := [.int a0, .ref b, .int v0]) (as := [.ref b, .int a0]) (rest := [.int v0]) (b := b) rfl rfl rfl ⟨Nat.le_of_ble_eq_true rfl, Nat.le_of_ble_eq_true rfl, Nat.le_of_ble_eq_true rfl, hc, hw⟩ rfl rfl (am_contI (Or.inr rfl) rfl)
set_option maxRecDepth 100000 in
theorem sK_542 {x z : Int32} : ok d (mLk kk) n0 Q n c w 542 ls (.int z :: .int x :: st) M = ((x = z → ok d (mLk kk) n0 Q n c w 1695 ls st M) ∧ (¬ (x = z) → ok d (mLk kk) n0 Q n c w 545 ls st M)) := ok_ico (pc := 542) (off := 1153) (k := .eq) rfl 1695 (by decide)
set_option maxRecDepth 100000 in
theorem sK_545 : ok d (mLk kk) n0 Q n c w 545 ls st M = ok d (mLk kk) n0 Q n c w 546 ls (.int 0 :: st) M := ok_r rfl (by rw [← ic_0]; rfl)
set_option maxRecDepth 100000 in
theorem sK_546 {x : Int32} (ha : am_ret (mLk kk) n0 n c w) : ok d (mLk kk) n0 Q n c w 546 ls [.int x] M = ((x = 0 ∨ x = 1) ∧ Q (some (.int x)) M) := ok_reZ rfl rfl ha
set_option maxRecDepth 100000 in
theorem sK_547 {l0 : Option Value} {x : Nat} : ok d (mLk kk) n0 Q n c w 547 (l0 :: some (.ref x) :: ls) st M = ok d (mLk kk) n0 Q n c w 548 (l0 :: some (.ref x) :: ls) (.ref x :: st) M := ok_r rfl rfl
set_option maxRecDepth 100000 in
theorem sK_548 {x : Nat} : ok d (mLk kk) n0 Q n c w 548 (some (.ref x) :: ls) st M = ok d (mLk kk) n0 Q n c w 549 (some (.ref x) :: ls) (.ref x :: st) M := ok_r rfl rfl
set_option maxRecDepth 100000 in
theorem sK_549 {l0 l1 l2 l3 : Option Value} {x : Int32} : ok d (mLk kk) n0 Q n c w 549 (l0 :: l1 :: l2 :: l3 :: some (.int x) :: ls) st M = ok d (mLk kk) n0 Q n c w 551 (l0 :: l1 :: l2 :: l3 :: some (.int x) :: ls) (.int x :: st) M := ok_r rfl rfl
set_option maxRecDepth 100000 in
theorem sK_551 : ok d (mLk kk) n0 Q n c w 551 ls st M = ok d (mLk kk) n0 Q n c w 552 ls (.int 1 :: st) M := ok_r rfl (by rw [← ic_1]; rfl)
set_option maxRecDepth 100000 in
theorem sK_552 {x z : Int32} : ok d (mLk kk) n0 Q n c w 552 ls (.int z :: .int x :: st) M = ok d (mLk kk) n0 Q n c w 553 ls (.int (x + z) :: st) M := ok_r rfl rfl
set_option maxRecDepth 100000 in
theorem sK_553 {a : Nat} {i : Int32} : ok d (mLk kk) n0 Q n c w 553 ls (.int i :: .ref a :: st) M = (am_in n M a 1 i ∧ ok d (mLk kk) n0 Q n c w 554 ls (.int (gI M a i.toNatClampNeg) :: st) M) := ok_r rfl rfl
set_option maxRecDepth 100000 in
theorem sK_554 {b : Nat} {a0 : Int32} (hc : c + 0 ≤ 488 + 8 * kk) (hw : w + 0 ≤ 103327 + 64 * kk) : ok d (mLk kk) n0 Q n c w 554 ls [.int a0, .ref b] M = (am_ob n b 10 ∧ am_big d mX10_haste [.ref b, .int a0] n M (kI fun x M' => ok d (mLk kk) n0 Q n c w 557 ls (.int x :: []) M')) := ok_vir (y := (mLk kk)) (y' := mX10_haste) (pc := 554) (k := 60) (ps := [652, 653, 654, 99, 655]) (c := c) (w := w) (st := [.int a0, .ref b]) (as := [.ref b, .int a0]) (rest := []) (b := b) rfl rfl rfl ⟨Nat.le_of_ble_eq_true rfl, Nat.le_of_ble_eq_true rfl, Nat.le_of_ble_eq_true rfl, hc, hw⟩ rfl rfl (am_contI (Or.inr rfl) rfl)
set_option maxRecDepth 100000 in
theorem sK_557 {l0 l1 : Option Value} {x : Nat} : ok d (mLk kk) n0 Q n c w 557 (l0 :: l1 :: some (.ref x) :: ls) st M = ok d (mLk kk) n0 Q n c w 558 (l0 :: l1 :: some (.ref x) :: ls) (.ref x :: st) M := ok_r rfl rfl
set_option maxRecDepth 100000 in
theorem sK_558 {x : Nat} : ok d (mLk kk) n0 Q n c w 558 (some (.ref x) :: ls) st M = ok d (mLk kk) n0 Q n c w 559 (some (.ref x) :: ls) (.ref x :: st) M := ok_r rfl rfl
set_option maxRecDepth 100000 in
theorem sK_559 {l0 l1 l2 l3 : Option Value} {x : Int32} : ok d (mLk kk) n0 Q n c w 559 (l0 :: l1 :: l2 :: l3 :: some (.int x) :: ls) st M = ok d (mLk kk) n0 Q n c w 561 (l0 :: l1 :: l2 :: l3 :: some (.int x) :: ls) (.int x :: st) M := ok_r rfl rfl
set_option maxRecDepth 100000 in
theorem sK_561 : ok d (mLk kk) n0 Q n c w 561 ls st M = ok d (mLk kk) n0 Q n c w 562 ls (.int 1 :: st) M := ok_r rfl (by rw [← ic_1]; rfl)
set_option maxRecDepth 100000 in
theorem sK_562 {x z : Int32} : ok d (mLk kk) n0 Q n c w 562 ls (.int z :: .int x :: st) M = ok d (mLk kk) n0 Q n c w 563 ls (.int (x + z) :: st) M := ok_r rfl rfl
set_option maxRecDepth 100000 in
theorem sK_563 {a : Nat} {i : Int32} : ok d (mLk kk) n0 Q n c w 563 ls (.int i :: .ref a :: st) M = (am_in n M a 1 i ∧ ok d (mLk kk) n0 Q n c w 564 ls (.int (gI M a i.toNatClampNeg) :: st) M) := ok_r rfl rfl
set_option maxRecDepth 100000 in
theorem sK_564 {b : Nat} {v0 : Int32} {a0 : Int32} (hc : c + 0 ≤ 488 + 8 * kk) (hw : w + 0 ≤ 103327 + 64 * kk) : ok d (mLk kk) n0 Q n c w 564 ls [.int a0, .ref b, .int v0] M = (am_ob n b 11 ∧ am_big d mX11_haste [.ref b, .int a0] n M (kI fun x M' => ok d (mLk kk) n0 Q n c w 567 ls (.int x :: .int v0 :: []) M')) := ok_vir (y := (mLk kk)) (y' := mX11_haste) (pc := 564) (k := 63) (ps := [1602, 1603, 1604, 110, 1605]) (c := c) (w := w) (st := [.int a0, .ref b, .int v0]) (as := [.ref b, .int a0]) (rest := [.int v0]) (b := b) rfl rfl rfl ⟨Nat.le_of_ble_eq_true rfl, Nat.le_of_ble_eq_true rfl, Nat.le_of_ble_eq_true rfl, hc, hw⟩ rfl rfl (am_contI (Or.inr rfl) rfl)
set_option maxRecDepth 100000 in
theorem sK_567 {x z : Int32} : ok d (mLk kk) n0 Q n c w 567 ls (.int z :: .int x :: st) M = ((x = z → ok d (mLk kk) n0 Q n c w 1695 ls st M) ∧ (¬ (x = z) → ok d (mLk kk) n0 Q n c w 570 ls st M)) := ok_ico (pc := 567) (off := 1128) (k := .eq) rfl 1695 (by decide)
set_option maxRecDepth 100000 in
theorem sK_570 : ok d (mLk kk) n0 Q n c w 570 ls st M = ok d (mLk kk) n0 Q n c w 571 ls (.int 0 :: st) M := ok_r rfl (by rw [← ic_0]; rfl)
set_option maxRecDepth 100000 in
theorem sK_571 {x : Int32} (ha : am_ret (mLk kk) n0 n c w) : ok d (mLk kk) n0 Q n c w 571 ls [.int x] M = ((x = 0 ∨ x = 1) ∧ Q (some (.int x)) M) := ok_reZ rfl rfl ha
set_option maxRecDepth 100000 in
theorem sK_572 {l0 : Option Value} {x : Nat} : ok d (mLk kk) n0 Q n c w 572 (l0 :: some (.ref x) :: ls) st M = ok d (mLk kk) n0 Q n c w 573 (l0 :: some (.ref x) :: ls) (.ref x :: st) M := ok_r rfl rfl
set_option maxRecDepth 100000 in
theorem sK_573 {x : Nat} : ok d (mLk kk) n0 Q n c w 573 (some (.ref x) :: ls) st M = ok d (mLk kk) n0 Q n c w 574 (some (.ref x) :: ls) (.ref x :: st) M := ok_r rfl rfl
set_option maxRecDepth 100000 in
theorem sK_574 {l0 l1 l2 l3 : Option Value} {x : Int32} : ok d (mLk kk) n0 Q n c w 574 (l0 :: l1 :: l2 :: l3 :: some (.int x) :: ls) st M = ok d (mLk kk) n0 Q n c w 576 (l0 :: l1 :: l2 :: l3 :: some (.int x) :: ls) (.int x :: st) M := ok_r rfl rfl
set_option maxRecDepth 100000 in
theorem sK_576 : ok d (mLk kk) n0 Q n c w 576 ls st M = ok d (mLk kk) n0 Q n c w 577 ls (.int 1 :: st) M := ok_r rfl (by rw [← ic_1]; rfl)
set_option maxRecDepth 100000 in
theorem sK_577 {x z : Int32} : ok d (mLk kk) n0 Q n c w 577 ls (.int z :: .int x :: st) M = ok d (mLk kk) n0 Q n c w 578 ls (.int (x + z) :: st) M := ok_r rfl rfl
set_option maxRecDepth 100000 in
theorem sK_578 {a : Nat} {i : Int32} : ok d (mLk kk) n0 Q n c w 578 ls (.int i :: .ref a :: st) M = (am_in n M a 1 i ∧ ok d (mLk kk) n0 Q n c w 579 ls (.int (gI M a i.toNatClampNeg) :: st) M) := ok_r rfl rfl
set_option maxRecDepth 100000 in
theorem sK_579 {x : Nat} : ok d (mLk kk) n0 Q n c w 579 (some (.ref x) :: ls) st M = ok d (mLk kk) n0 Q n c w 580 (some (.ref x) :: ls) (.ref x :: st) M := ok_r rfl rfl
set_option maxRecDepth 100000 in
theorem sK_580 {l0 l1 l2 l3 : Option Value} {x : Int32} : ok d (mLk kk) n0 Q n c w 580 (l0 :: l1 :: l2 :: l3 :: some (.int x) :: ls) st M = ok d (mLk kk) n0 Q n c w 582 (l0 :: l1 :: l2 :: l3 :: some (.int x) :: ls) (.int x :: st) M := ok_r rfl rfl
set_option maxRecDepth 100000 in
theorem sK_582 : ok d (mLk kk) n0 Q n c w 582 ls st M = ok d (mLk kk) n0 Q n c w 583 ls (.int 2 :: st) M := ok_r rfl (by rw [← ic_2]; rfl)
set_option maxRecDepth 100000 in
theorem sK_583 {x z : Int32} : ok d (mLk kk) n0 Q n c w 583 ls (.int z :: .int x :: st) M = ok d (mLk kk) n0 Q n c w 584 ls (.int (x + z) :: st) M := ok_r rfl rfl
set_option maxRecDepth 100000 in
theorem sK_584 {a : Nat} {i : Int32} : ok d (mLk kk) n0 Q n c w 584 ls (.int i :: .ref a :: st) M = (am_in n M a 1 i ∧ ok d (mLk kk) n0 Q n c w 585 ls (.int (gI M a i.toNatClampNeg) :: st) M) := ok_r rfl rfl
set_option maxRecDepth 100000 in
theorem sK_585 {x : Nat} : ok d (mLk kk) n0 Q n c w 585 (some (.ref x) :: ls) st M = ok d (mLk kk) n0 Q n c w 586 (some (.ref x) :: ls) (.ref x :: st) M := ok_r rfl rfl
set_option maxRecDepth 100000 in
theorem sK_586 {l0 l1 l2 l3 : Option Value} {x : Int32} : ok d (mLk kk) n0 Q n c w 586 (l0 :: l1 :: l2 :: l3 :: some (.int x) :: ls) st M = ok d (mLk kk) n0 Q n c w 588 (l0 :: l1 :: l2 :: l3 :: some (.int x) :: ls) (.int x :: st) M := ok_r rfl rfl
set_option maxRecDepth 100000 in
theorem sK_588 : ok d (mLk kk) n0 Q n c w 588 ls st M = ok d (mLk kk) n0 Q n c w 589 ls (.int 3 :: st) M := ok_r rfl (by rw [← ic_3]; rfl)
set_option maxRecDepth 100000 in
theorem sK_589 {x z : Int32} : ok d (mLk kk) n0 Q n c w 589 ls (.int z :: .int x :: st) M = ok d (mLk kk) n0 Q n c w 590 ls (.int (x + z) :: st) M := ok_r rfl rfl
set_option maxRecDepth 100000 in
theorem sK_590 {a : Nat} {i : Int32} : ok d (mLk kk) n0 Q n c w 590 ls (.int i :: .ref a :: st) M = (am_in n M a 1 i ∧ ok d (mLk kk) n0 Q n c w 591 ls (.int (gI M a i.toNatClampNeg) :: st) M) := ok_r rfl rfl
set_option maxRecDepth 100000 in
theorem sK_591 {b : Nat} {a0 : Int32} {a1 : Int32} {a2 : Int32} (hc : c + 0 ≤ 488 + 8 * kk) (hw : w + 0 ≤ 103327 + 64 * kk) : ok d (mLk kk) n0 Q n c w 591 ls [.int a2, .int a1, .int a0, .ref b] M = (am_ob n b 10 ∧ am_big d mX10_make [.ref b, .int a0, .int a1, .int a2] n M (kI fun x M' => ok d (mLk kk) n0 Q n c w 594 ls (.int x :: []) M')) := ok_vir (y := (mLk kk)) (y' := mX10_make) (pc := 591) (k := 64) (ps := [656, 657, 658, 99, 659]) (c := c) (w := w) (st := [.int a2, .int a1, .int a0, .ref b]) (as := [.ref b, .int a0, .int a1, .int a2]) (rest := []) (b := b) rfl rfl rfl ⟨Nat.le_of_ble_eq_true rfl, Nat.le_of_ble_eq_true rfl, Nat.le_of_ble_eq_true rfl, hc, hw⟩ rfl rfl (am_contI (Or.inl rfl) rfl)
set_option maxRecDepth 100000 in
theorem sK_594 {l0 l1 : Option Value} {x : Nat} : ok d (mLk kk) n0 Q n c w 594 (l0 :: l1 :: some (.ref x) :: ls) st M = ok d (mLk kk) n0 Q n c w 595 (l0 :: l1 :: some (.ref x) :: ls) (.ref x :: st) M := ok_r rfl rfl
set_option maxRecDepth 100000 in
theorem sK_595 {x : Nat} : ok d (mLk kk) n0 Q n c w 595 (some (.ref x) :: ls) st M = ok d (mLk kk) n0 Q n c w 596 (some (.ref x) :: ls) (.ref x :: st) M := ok_r rfl rfl
set_option maxRecDepth 100000 in
theorem sK_596 {l0 l1 l2 l3 : Option Value} {x : Int32} : ok d (mLk kk) n0 Q n c w 596 (l0 :: l1 :: l2 :: l3 :: some (.int x) :: ls) st M = ok d (mLk kk) n0 Q n c w 598 (l0 :: l1 :: l2 :: l3 :: some (.int x) :: ls) (.int x :: st) M := ok_r rfl rfl
set_option maxRecDepth 100000 in
theorem sK_598 : ok d (mLk kk) n0 Q n c w 598 ls st M = ok d (mLk kk) n0 Q n c w 599 ls (.int 1 :: st) M := ok_r rfl (by rw [← ic_1]; rfl)
set_option maxRecDepth 100000 in
theorem sK_599 {x z : Int32} : ok d (mLk kk) n0 Q n c w 599 ls (.int z :: .int x :: st) M = ok d (mLk kk) n0 Q n c w 600 ls (.int (x + z) :: st) M := ok_r rfl rfl
set_option maxRecDepth 100000 in
theorem sK_600 {a : Nat} {i : Int32} : ok d (mLk kk) n0 Q n c w 600 ls (.int i :: .ref a :: st) M = (am_in n M a 1 i ∧ ok d (mLk kk) n0 Q n c w 601 ls (.int (gI M a i.toNatClampNeg) :: st) M) := ok_r rfl rfl
set_option maxRecDepth 100000 in
theorem sK_601 {x : Nat} : ok d (mLk kk) n0 Q n c w 601 (some (.ref x) :: ls) st M = ok d (mLk kk) n0 Q n c w 602 (some (.ref x) :: ls) (.ref x :: st) M := ok_r rfl rfl
set_option maxRecDepth 100000 in
theorem sK_602 {l0 l1 l2 l3 : Option Value} {x : Int32} : ok d (mLk kk) n0 Q n c w 602 (l0 :: l1 :: l2 :: l3 :: some (.int x) :: ls) st M = ok d (mLk kk) n0 Q n c w 604 (l0 :: l1 :: l2 :: l3 :: some (.int x) :: ls) (.int x :: st) M := ok_r rfl rfl
set_option maxRecDepth 100000 in
theorem sK_604 : ok d (mLk kk) n0 Q n c w 604 ls st M = ok d (mLk kk) n0 Q n c w 605 ls (.int 2 :: st) M := ok_r rfl (by rw [← ic_2]; rfl)
set_option maxRecDepth 100000 in
theorem sK_605 {x z : Int32} : ok d (mLk kk) n0 Q n c w 605 ls (.int z :: .int x :: st) M = ok d (mLk kk) n0 Q n c w 606 ls (.int (x + z) :: st) M := ok_r rfl rfl
set_option maxRecDepth 100000 in
theorem sK_606 {a : Nat} {i : Int32} : ok d (mLk kk) n0 Q n c w 606 ls (.int i :: .ref a :: st) M = (am_in n M a 1 i ∧ ok d (mLk kk) n0 Q n c w 607 ls (.int (gI M a i.toNatClampNeg) :: st) M) := ok_r rfl rfl
set_option maxRecDepth 100000 in
theorem sK_607 {x : Nat} : ok d (mLk kk) n0 Q n c w 607 (some (.ref x) :: ls) st M = ok d (mLk kk) n0 Q n c w 608 (some (.ref x) :: ls) (.ref x :: st) M := ok_r rfl rfl
set_option maxRecDepth 100000 in
theorem sK_608 {l0 l1 l2 l3 : Option Value} {x : Int32} : ok d (mLk kk) n0 Q n c w 608 (l0 :: l1 :: l2 :: l3 :: some (.int x) :: ls) st M = ok d (mLk kk) n0 Q n c w 610 (l0 :: l1 :: l2 :: l3 :: some (.int x) :: ls) (.int x :: st) M := ok_r rfl rfl
set_option maxRecDepth 100000 in
theorem sK_610 : ok d (mLk kk) n0 Q n c w 610 ls st M = ok d (mLk kk) n0 Q n c w 611 ls (.int 3 :: st) M := ok_r rfl (by rw [← ic_3]; rfl)
set_option maxRecDepth 100000 in
theorem sK_611 {x z : Int32} : ok d (mLk kk) n0 Q n c w 611 ls (.int z :: .int x :: st) M = ok d (mLk kk) n0 Q n c w 612 ls (.int (x + z) :: st) M := ok_r rfl rfl
set_option maxRecDepth 100000 in
theorem sK_612 {a : Nat} {i : Int32} : ok d (mLk kk) n0 Q n c w 612 ls (.int i :: .ref a :: st) M = (am_in n M a 1 i ∧ ok d (mLk kk) n0 Q n c w 613 ls (.int (gI M a i.toNatClampNeg) :: st) M) := ok_r rfl rfl
set_option maxRecDepth 100000 in
theorem sK_613 {b : Nat} {v0 : Int32} {a0 : Int32} {a1 : Int32} {a2 : Int32} (hc : c + 0 ≤ 488 + 8 * kk) (hw : w + 0 ≤ 103327 + 64 * kk) : ok d (mLk kk) n0 Q n c w 613 ls [.int a2, .int a1, .int a0, .ref b, .int v0] M = (am_ob n b 11 ∧ am_big d mX11_make [.ref b, .int a0, .int a1, .int a2] n M (kI fun x M' => ok d (mLk kk) n0 Q n c w 616 ls (.int x :: .int v0 :: []) M')) := ok_vir (y := (mLk kk)) (y' := mX11_make) (pc := 613) (k := 68) (ps := [1607, 1608, 1609, 110, 1610]) (c := c) (w := w) (st := [.int a2, .int a1, .int a0, .ref b, .int v0]) (as := [.ref b, .int a0, .int a1, .int a2]) (rest := [.int v0]) (b := b) rfl rfl rfl ⟨Nat.le_of_ble_eq_true rfl, Nat.le_of_ble_eq_true rfl, Nat.le_of_ble_eq_true rfl, hc, hw⟩ rfl rfl (am_contI (Or.inl rfl) rfl)
set_option maxRecDepth 100000 in
theorem sK_616 {x z : Int32} : ok d (mLk kk) n0 Q n c w 616 ls (.int z :: .int x :: st) M = ((x = z → ok d (mLk kk) n0 Q n c w 1695 ls st M) ∧ (¬ (x = z) → ok d (mLk kk) n0 Q n c w 619 ls st M)) := ok_ico (pc := 616) (off := 1079) (k := .eq) rfl 1695 (by decide)
set_option maxRecDepth 100000 in
theorem sK_619 : ok d (mLk kk) n0 Q n c w 619 ls st M = ok d (mLk kk) n0 Q n c w 620 ls (.int 0 :: st) M := ok_r rfl (by rw [← ic_0]; rfl)
set_option maxRecDepth 100000 in
theorem sK_620 {x : Int32} (ha : am_ret (mLk kk) n0 n c w) : ok d (mLk kk) n0 Q n c w 620 ls [.int x] M = ((x = 0 ∨ x = 1) ∧ Q (some (.int x)) M) := ok_reZ rfl rfl ha
set_option maxRecDepth 100000 in
theorem sK_621 {l0 : Option Value} {x : Nat} : ok d (mLk kk) n0 Q n c w 621 (l0 :: some (.ref x) :: ls) st M = ok d (mLk kk) n0 Q n c w 622 (l0 :: some (.ref x) :: ls) (.ref x :: st) M := ok_r rfl rfl
set_option maxRecDepth 100000 in
theorem sK_622 {x : Nat} : ok d (mLk kk) n0 Q n c w 622 (some (.ref x) :: ls) st M = ok d (mLk kk) n0 Q n c w 623 (some (.ref x) :: ls) (.ref x :: st) M := ok_r rfl rfl
set_option maxRecDepth 100000 in
theorem sK_623 {l0 l1 l2 l3 : Option Value} {x : Int32} : ok d (mLk kk) n0 Q n c w 623 (l0 :: l1 :: l2 :: l3 :: some (.int x) :: ls) st M = ok d (mLk kk) n0 Q n c w 625 (l0 :: l1 :: l2 :: l3 :: some (.int x) :: ls) (.int x :: st) M := ok_r rfl rfl
set_option maxRecDepth 100000 in
theorem sK_625 : ok d (mLk kk) n0 Q n c w 625 ls st M = ok d (mLk kk) n0 Q n c w 626 ls (.int 1 :: st) M := ok_r rfl (by rw [← ic_1]; rfl)
set_option maxRecDepth 100000 in
theorem sK_626 {x z : Int32} : ok d (mLk kk) n0 Q n c w 626 ls (.int z :: .int x :: st) M = ok d (mLk kk) n0 Q n c w 627 ls (.int (x + z) :: st) M := ok_r rfl rfl
set_option maxRecDepth 100000 in
theorem sK_627 {a : Nat} {i : Int32} : ok d (mLk kk) n0 Q n c w 627 ls (.int i :: .ref a :: st) M = (am_in n M a 1 i ∧ ok d (mLk kk) n0 Q n c w 628 ls (.int (gI M a i.toNatClampNeg) :: st) M) := ok_r rfl rfl
set_option maxRecDepth 100000 in
theorem sK_628 {b : Nat} {a0 : Int32} (hc : c + 0 ≤ 488 + 8 * kk) (hw : w + 0 ≤ 103327 + 64 * kk) : ok d (mLk kk) n0 Q n c w 628 ls [.int a0, .ref b] M = (am_ob n b 10 ∧ am_big d mX10_undoes [.ref b, .int a0] n M (kI fun x M' => ok d (mLk kk) n0 Q n c w 631 ls (.int x :: []) M')) := ok_vir (y := (mLk kk)) (y' := mX10_undoes) (pc := 628) (k := 69) (ps := [705, 706, 707, 99, 708]) (c := c) (w := w) (st := [.int a0, .ref b]) (as := [.ref b, .int a0]) (rest := []) (b := b) rfl rfl rfl ⟨Nat.le_of_ble_eq_true rfl, Nat.le_of_ble_eq_true rfl, Nat.le_of_ble_eq_true rfl, hc, hw⟩ rfl rfl (am_contI (Or.inl rfl) rfl)
set_option maxRecDepth 100000 in
theorem sK_631 {l0 l1 : Option Value} {x : Nat} : ok d (mLk kk) n0 Q n c w 631 (l0 :: l1 :: some (.ref x) :: ls) st M = ok d (mLk kk) n0 Q n c w 632 (l0 :: l1 :: some (.ref x) :: ls) (.ref x :: st) M := ok_r rfl rfl
set_option maxRecDepth 100000 in
theorem sK_632 {x : Nat} : ok d (mLk kk) n0 Q n c w 632 (some (.ref x) :: ls) st M = ok d (mLk kk) n0 Q n c w 633 (some (.ref x) :: ls) (.ref x :: st) M := ok_r rfl rfl
set_option maxRecDepth 100000 in
theorem sK_633 {l0 l1 l2 l3 : Option Value} {x : Int32} : ok d (mLk kk) n0 Q n c w 633 (l0 :: l1 :: l2 :: l3 :: some (.int x) :: ls) st M = ok d (mLk kk) n0 Q n c w 635 (l0 :: l1 :: l2 :: l3 :: some (.int x) :: ls) (.int x :: st) M := ok_r rfl rfl
set_option maxRecDepth 100000 in
theorem sK_635 : ok d (mLk kk) n0 Q n c w 635 ls st M = ok d (mLk kk) n0 Q n c w 636 ls (.int 1 :: st) M := ok_r rfl (by rw [← ic_1]; rfl)
set_option maxRecDepth 100000 in
theorem sK_636 {x z : Int32} : ok d (mLk kk) n0 Q n c w 636 ls (.int z :: .int x :: st) M = ok d (mLk kk) n0 Q n c w 637 ls (.int (x + z) :: st) M := ok_r rfl rfl
set_option maxRecDepth 100000 in
theorem sK_637 {a : Nat} {i : Int32} : ok d (mLk kk) n0 Q n c w 637 ls (.int i :: .ref a :: st) M = (am_in n M a 1 i ∧ ok d (mLk kk) n0 Q n c w 638 ls (.int (gI M a i.toNatClampNeg) :: st) M) := ok_r rfl rfl
set_option maxRecDepth 100000 in
theorem sK_638 {b : Nat} {v0 : Int32} {a0 : Int32} (hc : c + 0 ≤ 488 + 8 * kk) (hw : w + 0 ≤ 103327 + 64 * kk) : ok d (mLk kk) n0 Q n c w 638 ls [.int a0, .ref b, .int v0] M = (am_ob n b 11 ∧ am_big d mX11_undoes [.ref b, .int a0] n M (kI fun x M' => ok d (mLk kk) n0 Q n c w 641 ls (.int x :: .int v0 :: []) M')) := ok_vir (y := (mLk kk)) (y' := mX11_undoes) (pc := 638) (k := 72) (ps := [1647, 1648, 1649, 110, 1650]) (c := c) (w := w) (st := [.int a0, .ref b, .int v0]) (as := [.ref b, .int a0]) (rest := [.int v0]) (b := b) rfl rfl rfl ⟨Nat.le_of_ble_eq_true rfl, Nat.le_of_ble_eq_true rfl, Nat.le_of_ble_eq_true rfl, hc, hw⟩ rfl rfl (am_contI (Or.inl rfl) rfl)
set_option maxRecDepth 100000 in
theorem sK_641 {x z : Int32} : ok d (mLk kk) n0 Q n c w 641 ls (.int z :: .int x :: st) M = ((x = z → ok d (mLk kk) n0 Q n c w 1695 ls st M) ∧ (¬ (x = z) → ok d (mLk kk) n0 Q n c w 644 ls st M)) := ok_ico (pc := 641) (off := 1054) (k := .eq) rfl 1695 (by decide)
set_option maxRecDepth 100000 in
theorem sK_644 : ok d (mLk kk) n0 Q n c w 644 ls st M = ok d (mLk kk) n0 Q n c w 645 ls (.int 0 :: st) M := ok_r rfl (by rw [← ic_0]; rfl)
set_option maxRecDepth 100000 in
theorem sK_645 {x : Int32} (ha : am_ret (mLk kk) n0 n c w) : ok d (mLk kk) n0 Q n c w 645 ls [.int x] M = ((x = 0 ∨ x = 1) ∧ Q (some (.int x)) M) := ok_reZ rfl rfl ha
set_option maxRecDepth 100000 in
theorem sK_646 {l0 : Option Value} {x : Nat} : ok d (mLk kk) n0 Q n c w 646 (l0 :: some (.ref x) :: ls) st M = ok d (mLk kk) n0 Q n c w 647 (l0 :: some (.ref x) :: ls) (.ref x :: st) M := ok_r rfl rfl
set_option maxRecDepth 100000 in
theorem sK_647 {x : Nat} : ok d (mLk kk) n0 Q n c w 647 (some (.ref x) :: ls) st M = ok d (mLk kk) n0 Q n c w 648 (some (.ref x) :: ls) (.ref x :: st) M := ok_r rfl rfl
set_option maxRecDepth 100000 in
theorem sK_648 {l0 l1 l2 l3 : Option Value} {x : Int32} : ok d (mLk kk) n0 Q n c w 648 (l0 :: l1 :: l2 :: l3 :: some (.int x) :: ls) st M = ok d (mLk kk) n0 Q n c w 650 (l0 :: l1 :: l2 :: l3 :: some (.int x) :: ls) (.int x :: st) M := ok_r rfl rfl
set_option maxRecDepth 100000 in
theorem sK_650 : ok d (mLk kk) n0 Q n c w 650 ls st M = ok d (mLk kk) n0 Q n c w 651 ls (.int 1 :: st) M := ok_r rfl (by rw [← ic_1]; rfl)
set_option maxRecDepth 100000 in
theorem sK_651 {x z : Int32} : ok d (mLk kk) n0 Q n c w 651 ls (.int z :: .int x :: st) M = ok d (mLk kk) n0 Q n c w 652 ls (.int (x + z) :: st) M := ok_r rfl rfl
set_option maxRecDepth 100000 in
theorem sK_652 {a : Nat} {i : Int32} : ok d (mLk kk) n0 Q n c w 652 ls (.int i :: .ref a :: st) M = (am_in n M a 1 i ∧ ok d (mLk kk) n0 Q n c w 653 ls (.int (gI M a i.toNatClampNeg) :: st) M) := ok_r rfl rfl
set_option maxRecDepth 100000 in
theorem sK_653 {x : Nat} : ok d (mLk kk) n0 Q n c w 653 (some (.ref x) :: ls) st M = ok d (mLk kk) n0 Q n c w 654 (some (.ref x) :: ls) (.ref x :: st) M := ok_r rfl rfl
set_option maxRecDepth 100000 in
theorem sK_654 {l0 l1 l2 l3 : Option Value} {x : Int32} : ok d (mLk kk) n0 Q n c w 654 (l0 :: l1 :: l2 :: l3 :: some (.int x) :: ls) st M = ok d (mLk kk) n0 Q n c w 656 (l0 :: l1 :: l2 :: l3 :: some (.int x) :: ls) (.int x :: st) M := ok_r rfl rfl
set_option maxRecDepth 100000 in
theorem sK_656 : ok d (mLk kk) n0 Q n c w 656 ls st M = ok d (mLk kk) n0 Q n c w 657 ls (.int 2 :: st) M := ok_r rfl (by rw [← ic_2]; rfl)
set_option maxRecDepth 100000 in
theorem sK_657 {x z : Int32} : ok d (mLk kk) n0 Q n c w 657 ls (.int z :: .int x :: st) M = ok d (mLk kk) n0 Q n c w 658 ls (.int (x + z) :: st) M := ok_r rfl rfl
set_option maxRecDepth 100000 in
theorem sK_658 {a : Nat} {i : Int32} : ok d (mLk kk) n0 Q n c w 658 ls (.int i :: .ref a :: st) M = (am_in n M a 1 i ∧ ok d (mLk kk) n0 Q n c w 659 ls (.int (gI M a i.toNatClampNeg) :: st) M) := ok_r rfl rfl
set_option maxRecDepth 100000 in
theorem sK_659 {b : Nat} {a0 : Int32} {a1 : Int32} (hc : c + 0 ≤ 488 + 8 * kk) (hw : w + 0 ≤ 103327 + 64 * kk) : ok d (mLk kk) n0 Q n c w 659 ls [.int a1, .int a0, .ref b] M = (am_ob n b 10 ∧ am_big d mX10_takes [.ref b, .int a0, .int a1] n M (kI fun x M' => ok d (mLk kk) n0 Q n c w 662 ls (.int x :: []) M')) := ok_vir (y := (mLk kk)) (y' := mX10_takes) (pc := 659) (k := 73) (ps := [726, 727, 728, 99, 729]) (c := c) (w := w) (st := [.int a1, .int a0, .ref b]) (as := [.ref b, .int a0, .int a1]) (rest := []) (b := b) rfl rfl rfl ⟨Nat.le_of_ble_eq_true rfl, Nat.le_of_ble_eq_true rfl, Nat.le_of_ble_eq_true rfl, hc, hw⟩ rfl rfl (am_contI (Or.inl rfl) rfl)
set_option maxRecDepth 100000 in
theorem sK_662 {l0 l1 : Option Value} {x : Nat} : ok d (mLk kk) n0 Q n c w 662 (l0 :: l1 :: some (.ref x) :: ls) st M = ok d (mLk kk) n0 Q n c w 663 (l0 :: l1 :: some (.ref x) :: ls) (.ref x :: st) M := ok_r rfl rfl
set_option maxRecDepth 100000 in
theorem sK_663 {x : Nat} : ok d (mLk kk) n0 Q n c w 663 (some (.ref x) :: ls) st M = ok d (mLk kk) n0 Q n c w 664 (some (.ref x) :: ls) (.ref x :: st) M := ok_r rfl rfl
set_option maxRecDepth 100000 in
theorem sK_664 {l0 l1 l2 l3 : Option Value} {x : Int32} : ok d (mLk kk) n0 Q n c w 664 (l0 :: l1 :: l2 :: l3 :: some (.int x) :: ls) st M = ok d (mLk kk) n0 Q n c w 666 (l0 :: l1 :: l2 :: l3 :: some (.int x) :: ls) (.int x :: st) M := ok_r rfl rfl
set_option maxRecDepth 100000 in
theorem sK_666 : ok d (mLk kk) n0 Q n c w 666 ls st M = ok d (mLk kk) n0 Q n c w 667 ls (.int 1 :: st) M := ok_r rfl (by rw [← ic_1]; rfl)
set_option maxRecDepth 100000 in
theorem sK_667 {x z : Int32} : ok d (mLk kk) n0 Q n c w 667 ls (.int z :: .int x :: st) M = ok d (mLk kk) n0 Q n c w 668 ls (.int (x + z) :: st) M := ok_r rfl rfl
set_option maxRecDepth 100000 in
theorem sK_668 {a : Nat} {i : Int32} : ok d (mLk kk) n0 Q n c w 668 ls (.int i :: .ref a :: st) M = (am_in n M a 1 i ∧ ok d (mLk kk) n0 Q n c w 669 ls (.int (gI M a i.toNatClampNeg) :: st) M) := ok_r rfl rfl
set_option maxRecDepth 100000 in
theorem sK_669 {x : Nat} : ok d (mLk kk) n0 Q n c w 669 (some (.ref x) :: ls) st M = ok d (mLk kk) n0 Q n c w 670 (some (.ref x) :: ls) (.ref x :: st) M := ok_r rfl rfl
set_option maxRecDepth 100000 in
theorem sK_670 {l0 l1 l2 l3 : Option Value} {x : Int32} : ok d (mLk kk) n0 Q n c w 670 (l0 :: l1 :: l2 :: l3 :: some (.int x) :: ls) st M = ok d (mLk kk) n0 Q n c w 672 (l0 :: l1 :: l2 :: l3 :: some (.int x) :: ls) (.int x :: st) M := ok_r rfl rfl
set_option maxRecDepth 100000 in
theorem sK_672 : ok d (mLk kk) n0 Q n c w 672 ls st M = ok d (mLk kk) n0 Q n c w 673 ls (.int 2 :: st) M := ok_r rfl (by rw [← ic_2]; rfl)
set_option maxRecDepth 100000 in
theorem sK_673 {x z : Int32} : ok d (mLk kk) n0 Q n c w 673 ls (.int z :: .int x :: st) M = ok d (mLk kk) n0 Q n c w 674 ls (.int (x + z) :: st) M := ok_r rfl rfl
set_option maxRecDepth 100000 in
theorem sK_674 {a : Nat} {i : Int32} : ok d (mLk kk) n0 Q n c w 674 ls (.int i :: .ref a :: st) M = (am_in n M a 1 i ∧ ok d (mLk kk) n0 Q n c w 675 ls (.int (gI M a i.toNatClampNeg) :: st) M) := ok_r rfl rfl
set_option maxRecDepth 100000 in
theorem sK_675 {b : Nat} {v0 : Int32} {a0 : Int32} {a1 : Int32} (hc : c + 0 ≤ 488 + 8 * kk) (hw : w + 0 ≤ 103327 + 64 * kk) : ok d (mLk kk) n0 Q n c w 675 ls [.int a1, .int a0, .ref b, .int v0] M = (am_ob n b 11 ∧ am_big d mX11_takes_ [.ref b, .int a0, .int a1] n M (kI fun x M' => ok d (mLk kk) n0 Q n c w 678 ls (.int x :: .int v0 :: []) M')) := ok_vir (y := (mLk kk)) (y' := mX11_takes_) (pc := 675) (k := 76) (ps := [1665, 1666, 1667, 110, 1668]) (c := c) (w := w) (st := [.int a1, .int a0, .ref b, .int v0]) (as := [.ref b, .int a0, .int a1]) (rest := [.int v0]) (b := b) rfl rfl rfl ⟨Nat.le_of_ble_eq_true rfl, Nat.le_of_ble_eq_true rfl, Nat.le_of_ble_eq_true rfl, hc, hw⟩ rfl rfl (am_contI (Or.inl rfl) rfl)
set_option maxRecDepth 100000 in
theorem sK_678 {x z : Int32} : ok d (mLk kk) n0 Q n c w 678 ls (.int z :: .int x :: st) M = ((x = z → ok d (mLk kk) n0 Q n c w 1695 ls st M) ∧ (¬ (x = z) → ok d (mLk kk) n0 Q n c w 681 ls st M)) := ok_ico (pc := 678) (off := 1017) (k := .eq) rfl 1695 (by decide)
set_option maxRecDepth 100000 in
theorem sK_681 : ok d (mLk kk) n0 Q n c w 681 ls st M = ok d (mLk kk) n0 Q n c w 682 ls (.int 0 :: st) M := ok_r rfl (by rw [← ic_0]; rfl)
set_option maxRecDepth 100000 in
theorem sK_682 {x : Int32} (ha : am_ret (mLk kk) n0 n c w) : ok d (mLk kk) n0 Q n c w 682 ls [.int x] M = ((x = 0 ∨ x = 1) ∧ Q (some (.int x)) M) := ok_reZ rfl rfl ha
set_option maxRecDepth 100000 in
theorem sK_683 {l0 : Option Value} {x : Nat} : ok d (mLk kk) n0 Q n c w 683 (l0 :: some (.ref x) :: ls) st M = ok d (mLk kk) n0 Q n c w 684 (l0 :: some (.ref x) :: ls) (.ref x :: st) M := ok_r rfl rfl
set_option maxRecDepth 100000 in
theorem sK_684 {x : Nat} : ok d (mLk kk) n0 Q n c w 684 (some (.ref x) :: ls) st M = ok d (mLk kk) n0 Q n c w 685 (some (.ref x) :: ls) (.ref x :: st) M := ok_r rfl rfl
set_option maxRecDepth 100000 in
theorem sK_685 {l0 l1 l2 l3 : Option Value} {x : Int32} : ok d (mLk kk) n0 Q n c w 685 (l0 :: l1 :: l2 :: l3 :: some (.int x) :: ls) st M = ok d (mLk kk) n0 Q n c w 687 (l0 :: l1 :: l2 :: l3 :: some (.int x) :: ls) (.int x :: st) M := ok_r rfl rfl
set_option maxRecDepth 100000 in
theorem sK_687 : ok d (mLk kk) n0 Q n c w 687 ls st M = ok d (mLk kk) n0 Q n c w 688 ls (.int 1 :: st) M := ok_r rfl (by rw [← ic_1]; rfl)
set_option maxRecDepth 100000 in
theorem sK_688 {x z : Int32} : ok d (mLk kk) n0 Q n c w 688 ls (.int z :: .int x :: st) M = ok d (mLk kk) n0 Q n c w 689 ls (.int (x + z) :: st) M := ok_r rfl rfl
set_option maxRecDepth 100000 in
theorem sK_689 {a : Nat} {i : Int32} : ok d (mLk kk) n0 Q n c w 689 ls (.int i :: .ref a :: st) M = (am_in n M a 1 i ∧ ok d (mLk kk) n0 Q n c w 690 ls (.int (gI M a i.toNatClampNeg) :: st) M) := ok_r rfl rfl
set_option maxRecDepth 100000 in
theorem sK_690 {b : Nat} {a0 : Int32} (hc : c + 0 ≤ 488 + 8 * kk) (hw : w + 0 ≤ 103327 + 64 * kk) : ok d (mLk kk) n0 Q n c w 690 ls [.int a0, .ref b] M = (am_ob n b 10 ∧ am_big d mX10_enter [.ref b, .int a0] n M (kI fun x M' => ok d (mLk kk) n0 Q n c w 693 ls (.int x :: []) M')) := ok_vir (y := (mLk kk)) (y' := mX10_enter) (pc := 690) (k := 77) (ps := [740, 741, 742, 99, 743]) (c := c) (w := w) (st := [.int a0, .ref b]) (as := [.ref b, .int a0]) (rest := []) (b := b) rfl rfl rfl ⟨Nat.le_of_ble_eq_true rfl, Nat.le_of_ble_eq_true rfl, Nat.le_of_ble_eq_true rfl, hc, hw⟩ rfl rfl (am_contI (Or.inl rfl) rfl)
set_option maxRecDepth 100000 in
theorem sK_693 {l0 l1 : Option Value} {x : Nat} : ok d (mLk kk) n0 Q n c w 693 (l0 :: l1 :: some (.ref x) :: ls) st M = ok d (mLk kk) n0 Q n c w 694 (l0 :: l1 :: some (.ref x) :: ls) (.ref x :: st) M := ok_r rfl rfl
set_option maxRecDepth 100000 in
theorem sK_694 {x : Nat} : ok d (mLk kk) n0 Q n c w 694 (some (.ref x) :: ls) st M = ok d (mLk kk) n0 Q n c w 695 (some (.ref x) :: ls) (.ref x :: st) M := ok_r rfl rfl
set_option maxRecDepth 100000 in
theorem sK_695 {l0 l1 l2 l3 : Option Value} {x : Int32} : ok d (mLk kk) n0 Q n c w 695 (l0 :: l1 :: l2 :: l3 :: some (.int x) :: ls) st M = ok d (mLk kk) n0 Q n c w 697 (l0 :: l1 :: l2 :: l3 :: some (.int x) :: ls) (.int x :: st) M := ok_r rfl rfl
set_option maxRecDepth 100000 in
theorem sK_697 : ok d (mLk kk) n0 Q n c w 697 ls st M = ok d (mLk kk) n0 Q n c w 698 ls (.int 1 :: st) M := ok_r rfl (by rw [← ic_1]; rfl)
set_option maxRecDepth 100000 in
theorem sK_698 {x z : Int32} : ok d (mLk kk) n0 Q n c w 698 ls (.int z :: .int x :: st) M = ok d (mLk kk) n0 Q n c w 699 ls (.int (x + z) :: st) M := ok_r rfl rfl
set_option maxRecDepth 100000 in
theorem sK_699 {a : Nat} {i : Int32} : ok d (mLk kk) n0 Q n c w 699 ls (.int i :: .ref a :: st) M = (am_in n M a 1 i ∧ ok d (mLk kk) n0 Q n c w 700 ls (.int (gI M a i.toNatClampNeg) :: st) M) := ok_r rfl rfl
set_option maxRecDepth 100000 in
theorem sK_700 {b : Nat} {v0 : Int32} {a0 : Int32} (hc : c + 0 ≤ 488 + 8 * kk) (hw : w + 0 ≤ 103327 + 64 * kk) : ok d (mLk kk) n0 Q n c w 700 ls [.int a0, .ref b, .int v0] M = (am_ob n b 11 ∧ am_big d mX11_enter [.ref b, .int a0] n M (kI fun x M' => ok d (mLk kk) n0 Q n c w 703 ls (.int x :: .int v0 :: []) M')) := ok_vir (y := (mLk kk)) (y' := mX11_enter) (pc := 700) (k := 80) (ps := [1669, 1670, 1671, 110, 1672]) (c := c) (w := w) (st := [.int a0, .ref b, .int v0]) (as := [.ref b, .int a0]) (rest := [.int v0]) (b := b) rfl rfl rfl ⟨Nat.le_of_ble_eq_true rfl, Nat.le_of_ble_eq_true rfl, Nat.le_of_ble_eq_true rfl, hc, hw⟩ rfl rfl (am_contI (Or.inl rfl) rfl)
set_option maxRecDepth 100000 in
theorem sK_703 {x z : Int32} : ok d (mLk kk) n0 Q n c w 703 ls (.int z :: .int x :: st) M = ((x = z → ok d (mLk kk) n0 Q n c w 1695 ls st M) ∧ (¬ (x = z) → ok d (mLk kk) n0 Q n c w 706 ls st M)) := ok_ico (pc := 703) (off := 992) (k := .eq) rfl 1695 (by decide)
set_option maxRecDepth 100000 in
theorem sK_706 : ok d (mLk kk) n0 Q n c w 706 ls st M = ok d (mLk kk) n0 Q n c w 707 ls (.int 0 :: st) M := ok_r rfl (by rw [← ic_0]; rfl)
set_option maxRecDepth 100000 in
theorem sK_707 {x : Int32} (ha : am_ret (mLk kk) n0 n c w) : ok d (mLk kk) n0 Q n c w 707 ls [.int x] M = ((x = 0 ∨ x = 1) ∧ Q (some (.int x)) M) := ok_reZ rfl rfl ha
set_option maxRecDepth 100000 in
theorem sK_708 {l0 : Option Value} {x : Nat} : ok d (mLk kk) n0 Q n c w 708 (l0 :: some (.ref x) :: ls) st M = ok d (mLk kk) n0 Q n c w 709 (l0 :: some (.ref x) :: ls) (.ref x :: st) M := ok_r rfl rfl
set_option maxRecDepth 100000 in
theorem sK_709 {x : Nat} : ok d (mLk kk) n0 Q n c w 709 (some (.ref x) :: ls) st M = ok d (mLk kk) n0 Q n c w 710 (some (.ref x) :: ls) (.ref x :: st) M := ok_r rfl rfl
set_option maxRecDepth 100000 in
theorem sK_710 {l0 l1 l2 l3 : Option Value} {x : Int32} : ok d (mLk kk) n0 Q n c w 710 (l0 :: l1 :: l2 :: l3 :: some (.int x) :: ls) st M = ok d (mLk kk) n0 Q n c w 712 (l0 :: l1 :: l2 :: l3 :: some (.int x) :: ls) (.int x :: st) M := ok_r rfl rfl
set_option maxRecDepth 100000 in
theorem sK_712 : ok d (mLk kk) n0 Q n c w 712 ls st M = ok d (mLk kk) n0 Q n c w 713 ls (.int 1 :: st) M := ok_r rfl (by rw [← ic_1]; rfl)
set_option maxRecDepth 100000 in
theorem sK_713 {x z : Int32} : ok d (mLk kk) n0 Q n c w 713 ls (.int z :: .int x :: st) M = ok d (mLk kk) n0 Q n c w 714 ls (.int (x + z) :: st) M := ok_r rfl rfl
set_option maxRecDepth 100000 in
theorem sK_714 {a : Nat} {i : Int32} : ok d (mLk kk) n0 Q n c w 714 ls (.int i :: .ref a :: st) M = (am_in n M a 1 i ∧ ok d (mLk kk) n0 Q n c w 715 ls (.int (gI M a i.toNatClampNeg) :: st) M) := ok_r rfl rfl
set_option maxRecDepth 100000 in
theorem sK_715 {x : Nat} : ok d (mLk kk) n0 Q n c w 715 (some (.ref x) :: ls) st M = ok d (mLk kk) n0 Q n c w 716 (some (.ref x) :: ls) (.ref x :: st) M := ok_r rfl rfl
set_option maxRecDepth 100000 in
theorem sK_716 {l0 l1 l2 l3 : Option Value} {x : Int32} : ok d (mLk kk) n0 Q n c w 716 (l0 :: l1 :: l2 :: l3 :: some (.int x) :: ls) st M = ok d (mLk kk) n0 Q n c w 718 (l0 :: l1 :: l2 :: l3 :: some (.int x) :: ls) (.int x :: st) M := ok_r rfl rfl
set_option maxRecDepth 100000 in
theorem sK_718 : ok d (mLk kk) n0 Q n c w 718 ls st M = ok d (mLk kk) n0 Q n c w 719 ls (.int 2 :: st) M := ok_r rfl (by rw [← ic_2]; rfl)
set_option maxRecDepth 100000 in
theorem sK_719 {x z : Int32} : ok d (mLk kk) n0 Q n c w 719 ls (.int z :: .int x :: st) M = ok d (mLk kk) n0 Q n c w 720 ls (.int (x + z) :: st) M := ok_r rfl rfl
set_option maxRecDepth 100000 in
theorem sK_720 {a : Nat} {i : Int32} : ok d (mLk kk) n0 Q n c w 720 ls (.int i :: .ref a :: st) M = (am_in n M a 1 i ∧ ok d (mLk kk) n0 Q n c w 721 ls (.int (gI M a i.toNatClampNeg) :: st) M) := ok_r rfl rfl
set_option maxRecDepth 100000 in
theorem sK_721 {b : Nat} {a0 : Int32} {a1 : Int32} (hc : c + 0 ≤ 488 + 8 * kk) (hw : w + 0 ≤ 103327 + 64 * kk) : ok d (mLk kk) n0 Q n c w 721 ls [.int a1, .int a0, .ref b] M = (am_ob n b 10 ∧ am_big d mX10_forgets [.ref b, .int a0, .int a1] n M (kI fun x M' => ok d (mLk kk) n0 Q n c w 724 ls (.int x :: []) M')) := ok_vir (y := (mLk kk)) (y' := mX10_forgets) (pc := 721) (k := 81) (ps := [745, 746, 747, 99, 748]) (c := c) (w := w) (st := [.int a1, .int a0, .ref b]) (as := [.ref b, .int a0, .int a1]) (rest := []) (b := b) rfl rfl rfl ⟨Nat.le_of_ble_eq_true rfl, Nat.le_of_ble_eq_true rfl, Nat.le_of_ble_eq_true rfl, hc, hw⟩ rfl rfl (am_contI (Or.inl rfl) rfl)
set_option maxRecDepth 100000 in
theorem sK_724 {l0 l1 : Option Value} {x : Nat} : ok d (mLk kk) n0 Q n c w 724 (l0 :: l1 :: some (.ref x) :: ls) st M = ok d (mLk kk) n0 Q n c w 725 (l0 :: l1 :: some (.ref x) :: ls) (.ref x :: st) M := ok_r rfl rfl
set_option maxRecDepth 100000 in
theorem sK_725 {x : Nat} : ok d (mLk kk) n0 Q n c w 725 (some (.ref x) :: ls) st M = ok d (mLk kk) n0 Q n c w 726 (some (.ref x) :: ls) (.ref x :: st) M := ok_r rfl rfl
set_option maxRecDepth 100000 in
theorem sK_726 {l0 l1 l2 l3 : Option Value} {x : Int32} : ok d (mLk kk) n0 Q n c w 726 (l0 :: l1 :: l2 :: l3 :: some (.int x) :: ls) st M = ok d (mLk kk) n0 Q n c w 728 (l0 :: l1 :: l2 :: l3 :: some (.int x) :: ls) (.int x :: st) M := ok_r rfl rfl
set_option maxRecDepth 100000 in
theorem sK_728 : ok d (mLk kk) n0 Q n c w 728 ls st M = ok d (mLk kk) n0 Q n c w 729 ls (.int 1 :: st) M := ok_r rfl (by rw [← ic_1]; rfl)
set_option maxRecDepth 100000 in
theorem sK_729 {x z : Int32} : ok d (mLk kk) n0 Q n c w 729 ls (.int z :: .int x :: st) M = ok d (mLk kk) n0 Q n c w 730 ls (.int (x + z) :: st) M := ok_r rfl rfl
set_option maxRecDepth 100000 in
theorem sK_730 {a : Nat} {i : Int32} : ok d (mLk kk) n0 Q n c w 730 ls (.int i :: .ref a :: st) M = (am_in n M a 1 i ∧ ok d (mLk kk) n0 Q n c w 731 ls (.int (gI M a i.toNatClampNeg) :: st) M) := ok_r rfl rfl
set_option maxRecDepth 100000 in
theorem sK_731 {x : Nat} : ok d (mLk kk) n0 Q n c w 731 (some (.ref x) :: ls) st M = ok d (mLk kk) n0 Q n c w 732 (some (.ref x) :: ls) (.ref x :: st) M := ok_r rfl rfl
set_option maxRecDepth 100000 in
theorem sK_732 {l0 l1 l2 l3 : Option Value} {x : Int32} : ok d (mLk kk) n0 Q n c w 732 (l0 :: l1 :: l2 :: l3 :: some (.int x) :: ls) st M = ok d (mLk kk) n0 Q n c w 734 (l0 :: l1 :: l2 :: l3 :: some (.int x) :: ls) (.int x :: st) M := ok_r rfl rfl
set_option maxRecDepth 100000 in
theorem sK_734 : ok d (mLk kk) n0 Q n c w 734 ls st M = ok d (mLk kk) n0 Q n c w 735 ls (.int 2 :: st) M := ok_r rfl (by rw [← ic_2]; rfl)
set_option maxRecDepth 100000 in
theorem sK_735 {x z : Int32} : ok d (mLk kk) n0 Q n c w 735 ls (.int z :: .int x :: st) M = ok d (mLk kk) n0 Q n c w 736 ls (.int (x + z) :: st) M := ok_r rfl rfl
set_option maxRecDepth 100000 in
theorem sK_736 {a : Nat} {i : Int32} : ok d (mLk kk) n0 Q n c w 736 ls (.int i :: .ref a :: st) M = (am_in n M a 1 i ∧ ok d (mLk kk) n0 Q n c w 737 ls (.int (gI M a i.toNatClampNeg) :: st) M) := ok_r rfl rfl
set_option maxRecDepth 100000 in
theorem sK_737 {b : Nat} {v0 : Int32} {a0 : Int32} {a1 : Int32} (hc : c + 0 ≤ 488 + 8 * kk) (hw : w + 0 ≤ 103327 + 64 * kk) : ok d (mLk kk) n0 Q n c w 737 ls [.int a1, .int a0, .ref b, .int v0] M = (am_ob n b 11 ∧ am_big d mX11_forgets [.ref b, .int a0, .int a1] n M (kI fun x M' => ok d (mLk kk) n0 Q n c w 740 ls (.int x :: .int v0 :: []) M')) := ok_vir (y := (mLk kk)) (y' := mX11_forgets) (pc := 737) (k := 84) (ps := [1673, 1674, 1675, 110, 1676]) (c := c) (w := w) (st := [.int a1, .int a0, .ref b, .int v0]) (as := [.ref b, .int a0, .int a1]) (rest := [.int v0]) (b := b) rfl rfl rfl ⟨Nat.le_of_ble_eq_true rfl, Nat.le_of_ble_eq_true rfl, Nat.le_of_ble_eq_true rfl, hc, hw⟩ rfl rfl (am_contI (Or.inl rfl) rfl)
set_option maxRecDepth 100000 in
theorem sK_740 {x z : Int32} : ok d (mLk kk) n0 Q n c w 740 ls (.int z :: .int x :: st) M = ((x = z → ok d (mLk kk) n0 Q n c w 1695 ls st M) ∧ (¬ (x = z) → ok d (mLk kk) n0 Q n c w 743 ls st M)) := ok_ico (pc := 740) (off := 955) (k := .eq) rfl 1695 (by decide)
set_option maxRecDepth 100000 in
theorem sK_743 : ok d (mLk kk) n0 Q n c w 743 ls st M = ok d (mLk kk) n0 Q n c w 744 ls (.int 0 :: st) M := ok_r rfl (by rw [← ic_0]; rfl)
set_option maxRecDepth 100000 in
theorem sK_744 {x : Int32} (ha : am_ret (mLk kk) n0 n c w) : ok d (mLk kk) n0 Q n c w 744 ls [.int x] M = ((x = 0 ∨ x = 1) ∧ Q (some (.int x)) M) := ok_reZ rfl rfl ha
set_option maxRecDepth 100000 in
theorem sK_745 {l0 : Option Value} {x : Nat} : ok d (mLk kk) n0 Q n c w 745 (l0 :: some (.ref x) :: ls) st M = ok d (mLk kk) n0 Q n c w 746 (l0 :: some (.ref x) :: ls) (.ref x :: st) M := ok_r rfl rfl
set_option maxRecDepth 100000 in
theorem sK_746 {b : Nat}  (hc : c + 0 ≤ 488 + 8 * kk) (hw : w + 0 ≤ 103327 + 64 * kk) : ok d (mLk kk) n0 Q n c w 746 ls [.ref b] M = (am_ob n b 10 ∧ am_big d mX10_sell [.ref b] n M (kI fun x M' => ok d (mLk kk) n0 Q n c w 749 ls (.int x :: []) M')) := ok_vir (y := (mLk kk)) (y' := mX10_sell) (pc := 746) (k := 85) (ps := [752, 753, 754, 99, 755]) (c := c) (w := w) (st := [.ref b]) (as := [.ref b]) (rest := []) (b := b) rfl rfl rfl ⟨Nat.le_of_ble_eq_true rfl, Nat.le_of_ble_eq_true rfl, Nat.le_of_ble_eq_true rfl, hc, hw⟩ rfl rfl (am_contI (Or.inl rfl) rfl)
set_option maxRecDepth 100000 in
theorem sK_749 {l0 l1 : Option Value} {x : Nat} : ok d (mLk kk) n0 Q n c w 749 (l0 :: l1 :: some (.ref x) :: ls) st M = ok d (mLk kk) n0 Q n c w 750 (l0 :: l1 :: some (.ref x) :: ls) (.ref x :: st) M := ok_r rfl rfl
set_option maxRecDepth 100000 in
theorem sK_750 {b : Nat} {v0 : Int32} (hc : c + 0 ≤ 488 + 8 * kk) (hw : w + 0 ≤ 103327 + 64 * kk) : ok d (mLk kk) n0 Q n c w 750 ls [.ref b, .int v0] M = (am_ob n b 11 ∧ am_big d mX11_sell [.ref b] n M (kI fun x M' => ok d (mLk kk) n0 Q n c w 753 ls (.int x :: .int v0 :: []) M')) := ok_vir (y := (mLk kk)) (y' := mX11_sell) (pc := 750) (k := 88) (ps := [1680, 1681, 1682, 110, 1683]) (c := c) (w := w) (st := [.ref b, .int v0]) (as := [.ref b]) (rest := [.int v0]) (b := b) rfl rfl rfl ⟨Nat.le_of_ble_eq_true rfl, Nat.le_of_ble_eq_true rfl, Nat.le_of_ble_eq_true rfl, hc, hw⟩ rfl rfl (am_contI (Or.inl rfl) rfl)
set_option maxRecDepth 100000 in
theorem sK_753 {x z : Int32} : ok d (mLk kk) n0 Q n c w 753 ls (.int z :: .int x :: st) M = ((x = z → ok d (mLk kk) n0 Q n c w 1695 ls st M) ∧ (¬ (x = z) → ok d (mLk kk) n0 Q n c w 756 ls st M)) := ok_ico (pc := 753) (off := 942) (k := .eq) rfl 1695 (by decide)
set_option maxRecDepth 100000 in
theorem sK_756 : ok d (mLk kk) n0 Q n c w 756 ls st M = ok d (mLk kk) n0 Q n c w 757 ls (.int 0 :: st) M := ok_r rfl (by rw [← ic_0]; rfl)
set_option maxRecDepth 100000 in
theorem sK_757 {x : Int32} (ha : am_ret (mLk kk) n0 n c w) : ok d (mLk kk) n0 Q n c w 757 ls [.int x] M = ((x = 0 ∨ x = 1) ∧ Q (some (.int x)) M) := ok_reZ rfl rfl ha
set_option maxRecDepth 100000 in
theorem sK_758 {l0 : Option Value} {x : Nat} : ok d (mLk kk) n0 Q n c w 758 (l0 :: some (.ref x) :: ls) st M = ok d (mLk kk) n0 Q n c w 759 (l0 :: some (.ref x) :: ls) (.ref x :: st) M := ok_r rfl rfl
set_option maxRecDepth 100000 in
theorem sK_759 {x : Nat} : ok d (mLk kk) n0 Q n c w 759 (some (.ref x) :: ls) st M = ok d (mLk kk) n0 Q n c w 760 (some (.ref x) :: ls) (.ref x :: st) M := ok_r rfl rfl
set_option maxRecDepth 100000 in
theorem sK_760 {l0 l1 l2 l3 : Option Value} {x : Int32} : ok d (mLk kk) n0 Q n c w 760 (l0 :: l1 :: l2 :: l3 :: some (.int x) :: ls) st M = ok d (mLk kk) n0 Q n c w 762 (l0 :: l1 :: l2 :: l3 :: some (.int x) :: ls) (.int x :: st) M := ok_r rfl rfl
set_option maxRecDepth 100000 in
theorem sK_762 : ok d (mLk kk) n0 Q n c w 762 ls st M = ok d (mLk kk) n0 Q n c w 763 ls (.int 1 :: st) M := ok_r rfl (by rw [← ic_1]; rfl)
set_option maxRecDepth 100000 in
theorem sK_763 {x z : Int32} : ok d (mLk kk) n0 Q n c w 763 ls (.int z :: .int x :: st) M = ok d (mLk kk) n0 Q n c w 764 ls (.int (x + z) :: st) M := ok_r rfl rfl
set_option maxRecDepth 100000 in
theorem sK_764 {a : Nat} {i : Int32} : ok d (mLk kk) n0 Q n c w 764 ls (.int i :: .ref a :: st) M = (am_in n M a 1 i ∧ ok d (mLk kk) n0 Q n c w 765 ls (.int (gI M a i.toNatClampNeg) :: st) M) := ok_r rfl rfl
set_option maxRecDepth 100000 in
theorem sK_765 {x : Nat} : ok d (mLk kk) n0 Q n c w 765 (some (.ref x) :: ls) st M = ok d (mLk kk) n0 Q n c w 766 (some (.ref x) :: ls) (.ref x :: st) M := ok_r rfl rfl
set_option maxRecDepth 100000 in
theorem sK_766 {l0 l1 l2 l3 : Option Value} {x : Int32} : ok d (mLk kk) n0 Q n c w 766 (l0 :: l1 :: l2 :: l3 :: some (.int x) :: ls) st M = ok d (mLk kk) n0 Q n c w 768 (l0 :: l1 :: l2 :: l3 :: some (.int x) :: ls) (.int x :: st) M := ok_r rfl rfl
set_option maxRecDepth 100000 in
theorem sK_768 : ok d (mLk kk) n0 Q n c w 768 ls st M = ok d (mLk kk) n0 Q n c w 769 ls (.int 2 :: st) M := ok_r rfl (by rw [← ic_2]; rfl)
set_option maxRecDepth 100000 in
theorem sK_769 {x z : Int32} : ok d (mLk kk) n0 Q n c w 769 ls (.int z :: .int x :: st) M = ok d (mLk kk) n0 Q n c w 770 ls (.int (x + z) :: st) M := ok_r rfl rfl
set_option maxRecDepth 100000 in
theorem sK_770 {a : Nat} {i : Int32} : ok d (mLk kk) n0 Q n c w 770 ls (.int i :: .ref a :: st) M = (am_in n M a 1 i ∧ ok d (mLk kk) n0 Q n c w 771 ls (.int (gI M a i.toNatClampNeg) :: st) M) := ok_r rfl rfl
set_option maxRecDepth 100000 in
theorem sK_771 {x : Int32} : ok d (mLk kk) n0 Q n c w 771 ls (.int x :: st) M = ok d (mLk kk) n0 Q n c w 772 ls (.long x.toInt64 :: st) M := ok_r rfl rfl
set_option maxRecDepth 100000 in
theorem sK_772 : ok d (mLk kk) n0 Q n c w 772 ls st M = ok d (mLk kk) n0 Q n c w 774 ls (.int 32 :: st) M := ok_r rfl (by rw [← bc_32]; rfl)
set_option maxRecDepth 100000 in
theorem sK_774 {x : Int64} {z : Int32} : ok d (mLk kk) n0 Q n c w 774 ls (.int z :: .long x :: st) M = ok d (mLk kk) n0 Q n c w 775 ls (.long (x <<< (z.toInt64 &&& 63)) :: st) M := ok_r rfl rfl
set_option maxRecDepth 100000 in
theorem sK_775 {x : Nat} : ok d (mLk kk) n0 Q n c w 775 (some (.ref x) :: ls) st M = ok d (mLk kk) n0 Q n c w 776 (some (.ref x) :: ls) (.ref x :: st) M := ok_r rfl rfl
set_option maxRecDepth 100000 in
theorem sK_776 {l0 l1 l2 l3 : Option Value} {x : Int32} : ok d (mLk kk) n0 Q n c w 776 (l0 :: l1 :: l2 :: l3 :: some (.int x) :: ls) st M = ok d (mLk kk) n0 Q n c w 778 (l0 :: l1 :: l2 :: l3 :: some (.int x) :: ls) (.int x :: st) M := ok_r rfl rfl
set_option maxRecDepth 100000 in
theorem sK_778 : ok d (mLk kk) n0 Q n c w 778 ls st M = ok d (mLk kk) n0 Q n c w 779 ls (.int 3 :: st) M := ok_r rfl (by rw [← ic_3]; rfl)
set_option maxRecDepth 100000 in
theorem sK_779 {x z : Int32} : ok d (mLk kk) n0 Q n c w 779 ls (.int z :: .int x :: st) M = ok d (mLk kk) n0 Q n c w 780 ls (.int (x + z) :: st) M := ok_r rfl rfl
set_option maxRecDepth 100000 in
theorem sK_780 {a : Nat} {i : Int32} : ok d (mLk kk) n0 Q n c w 780 ls (.int i :: .ref a :: st) M = (am_in n M a 1 i ∧ ok d (mLk kk) n0 Q n c w 781 ls (.int (gI M a i.toNatClampNeg) :: st) M) := ok_r rfl rfl
set_option maxRecDepth 100000 in
theorem sK_781 {x : Int32} : ok d (mLk kk) n0 Q n c w 781 ls (.int x :: st) M = ok d (mLk kk) n0 Q n c w 782 ls (.long x.toInt64 :: st) M := ok_r rfl rfl
set_option maxRecDepth 100000 in
theorem sK_782 : ok d (mLk kk) n0 Q n c w 782 ls st M = ok d (mLk kk) n0 Q n c w 785 ls (.long 4294967295 :: st) M := ok_ldcl (v := (4294967295, 1910)) rfl rfl rfl
set_option maxRecDepth 100000 in
theorem sK_785 {x z : Int64} : ok d (mLk kk) n0 Q n c w 785 ls (.long z :: .long x :: st) M = ok d (mLk kk) n0 Q n c w 786 ls (.long (x &&& z) :: st) M := ok_r rfl rfl
set_option maxRecDepth 100000 in
theorem sK_786 {x z : Int64} : ok d (mLk kk) n0 Q n c w 786 ls (.long z :: .long x :: st) M = ok d (mLk kk) n0 Q n c w 787 ls (.long (x ||| z) :: st) M := ok_r rfl rfl
set_option maxRecDepth 100000 in
theorem sK_787 {b : Nat} {a0 : Int32} {a1 : Int64} (hc : c + 0 ≤ 488 + 8 * kk) (hw : w + 0 ≤ 103327 + 64 * kk) : ok d (mLk kk) n0 Q n c w 787 ls [.long a1, .int a0, .ref b] M = (am_ob n b 10 ∧ am_big d mX10_years [.ref b, .int a0, .long a1] n M (kI fun x M' => ok d (mLk kk) n0 Q n c w 790 ls (.int x :: []) M')) := ok_vir (y := (mLk kk)) (y' := mX10_years) (pc := 787) (k := 91) (ps := [757, 758, 759, 99, 760]) (c := c) (w := w) (st := [.long a1, .int a0, .ref b]) (as := [.ref b, .int a0, .long a1]) (rest := []) (b := b) rfl rfl rfl ⟨Nat.le_of_ble_eq_true rfl, Nat.le_of_ble_eq_true rfl, Nat.le_of_ble_eq_true rfl, hc, hw⟩ rfl rfl (am_contI (Or.inl rfl) rfl)
set_option maxRecDepth 100000 in
theorem sK_790 {l0 l1 : Option Value} {x : Nat} : ok d (mLk kk) n0 Q n c w 790 (l0 :: l1 :: some (.ref x) :: ls) st M = ok d (mLk kk) n0 Q n c w 791 (l0 :: l1 :: some (.ref x) :: ls) (.ref x :: st) M := ok_r rfl rfl
set_option maxRecDepth 100000 in
theorem sK_791 {x : Nat} : ok d (mLk kk) n0 Q n c w 791 (some (.ref x) :: ls) st M = ok d (mLk kk) n0 Q n c w 792 (some (.ref x) :: ls) (.ref x :: st) M := ok_r rfl rfl
set_option maxRecDepth 100000 in
theorem sK_792 {l0 l1 l2 l3 : Option Value} {x : Int32} : ok d (mLk kk) n0 Q n c w 792 (l0 :: l1 :: l2 :: l3 :: some (.int x) :: ls) st M = ok d (mLk kk) n0 Q n c w 794 (l0 :: l1 :: l2 :: l3 :: some (.int x) :: ls) (.int x :: st) M := ok_r rfl rfl
set_option maxRecDepth 100000 in
theorem sK_794 : ok d (mLk kk) n0 Q n c w 794 ls st M = ok d (mLk kk) n0 Q n c w 795 ls (.int 1 :: st) M := ok_r rfl (by rw [← ic_1]; rfl)
set_option maxRecDepth 100000 in
theorem sK_795 {x z : Int32} : ok d (mLk kk) n0 Q n c w 795 ls (.int z :: .int x :: st) M = ok d (mLk kk) n0 Q n c w 796 ls (.int (x + z) :: st) M := ok_r rfl rfl
set_option maxRecDepth 100000 in
theorem sK_796 {a : Nat} {i : Int32} : ok d (mLk kk) n0 Q n c w 796 ls (.int i :: .ref a :: st) M = (am_in n M a 1 i ∧ ok d (mLk kk) n0 Q n c w 797 ls (.int (gI M a i.toNatClampNeg) :: st) M) := ok_r rfl rfl
set_option maxRecDepth 100000 in
theorem sK_797 {x : Nat} : ok d (mLk kk) n0 Q n c w 797 (some (.ref x) :: ls) st M = ok d (mLk kk) n0 Q n c w 798 (some (.ref x) :: ls) (.ref x :: st) M := ok_r rfl rfl
set_option maxRecDepth 100000 in
theorem sK_798 {l0 l1 l2 l3 : Option Value} {x : Int32} : ok d (mLk kk) n0 Q n c w 798 (l0 :: l1 :: l2 :: l3 :: some (.int x) :: ls) st M = ok d (mLk kk) n0 Q n c w 800 (l0 :: l1 :: l2 :: l3 :: some (.int x) :: ls) (.int x :: st) M := ok_r rfl rfl
set_option maxRecDepth 100000 in
theorem sK_800 : ok d (mLk kk) n0 Q n c w 800 ls st M = ok d (mLk kk) n0 Q n c w 801 ls (.int 2 :: st) M := ok_r rfl (by rw [← ic_2]; rfl)
set_option maxRecDepth 100000 in
theorem sK_801 {x z : Int32} : ok d (mLk kk) n0 Q n c w 801 ls (.int z :: .int x :: st) M = ok d (mLk kk) n0 Q n c w 802 ls (.int (x + z) :: st) M := ok_r rfl rfl
set_option maxRecDepth 100000 in
theorem sK_802 {a : Nat} {i : Int32} : ok d (mLk kk) n0 Q n c w 802 ls (.int i :: .ref a :: st) M = (am_in n M a 1 i ∧ ok d (mLk kk) n0 Q n c w 803 ls (.int (gI M a i.toNatClampNeg) :: st) M) := ok_r rfl rfl
set_option maxRecDepth 100000 in
theorem sK_803 {x : Int32} : ok d (mLk kk) n0 Q n c w 803 ls (.int x :: st) M = ok d (mLk kk) n0 Q n c w 804 ls (.long x.toInt64 :: st) M := ok_r rfl rfl
set_option maxRecDepth 100000 in
theorem sK_804 : ok d (mLk kk) n0 Q n c w 804 ls st M = ok d (mLk kk) n0 Q n c w 806 ls (.int 32 :: st) M := ok_r rfl (by rw [← bc_32]; rfl)
set_option maxRecDepth 100000 in
theorem sK_806 {x : Int64} {z : Int32} : ok d (mLk kk) n0 Q n c w 806 ls (.int z :: .long x :: st) M = ok d (mLk kk) n0 Q n c w 807 ls (.long (x <<< (z.toInt64 &&& 63)) :: st) M := ok_r rfl rfl
set_option maxRecDepth 100000 in
theorem sK_807 {x : Nat} : ok d (mLk kk) n0 Q n c w 807 (some (.ref x) :: ls) st M = ok d (mLk kk) n0 Q n c w 808 (some (.ref x) :: ls) (.ref x :: st) M := ok_r rfl rfl
set_option maxRecDepth 100000 in
theorem sK_808 {l0 l1 l2 l3 : Option Value} {x : Int32} : ok d (mLk kk) n0 Q n c w 808 (l0 :: l1 :: l2 :: l3 :: some (.int x) :: ls) st M = ok d (mLk kk) n0 Q n c w 810 (l0 :: l1 :: l2 :: l3 :: some (.int x) :: ls) (.int x :: st) M := ok_r rfl rfl
set_option maxRecDepth 100000 in
theorem sK_810 : ok d (mLk kk) n0 Q n c w 810 ls st M = ok d (mLk kk) n0 Q n c w 811 ls (.int 3 :: st) M := ok_r rfl (by rw [← ic_3]; rfl)
set_option maxRecDepth 100000 in
theorem sK_811 {x z : Int32} : ok d (mLk kk) n0 Q n c w 811 ls (.int z :: .int x :: st) M = ok d (mLk kk) n0 Q n c w 812 ls (.int (x + z) :: st) M := ok_r rfl rfl
set_option maxRecDepth 100000 in
theorem sK_812 {a : Nat} {i : Int32} : ok d (mLk kk) n0 Q n c w 812 ls (.int i :: .ref a :: st) M = (am_in n M a 1 i ∧ ok d (mLk kk) n0 Q n c w 813 ls (.int (gI M a i.toNatClampNeg) :: st) M) := ok_r rfl rfl
set_option maxRecDepth 100000 in
theorem sK_813 {x : Int32} : ok d (mLk kk) n0 Q n c w 813 ls (.int x :: st) M = ok d (mLk kk) n0 Q n c w 814 ls (.long x.toInt64 :: st) M := ok_r rfl rfl
set_option maxRecDepth 100000 in
theorem sK_814 : ok d (mLk kk) n0 Q n c w 814 ls st M = ok d (mLk kk) n0 Q n c w 817 ls (.long 4294967295 :: st) M := ok_ldcl (v := (4294967295, 1910)) rfl rfl rfl
set_option maxRecDepth 100000 in
theorem sK_817 {x z : Int64} : ok d (mLk kk) n0 Q n c w 817 ls (.long z :: .long x :: st) M = ok d (mLk kk) n0 Q n c w 818 ls (.long (x &&& z) :: st) M := ok_r rfl rfl
set_option maxRecDepth 100000 in
theorem sK_818 {x z : Int64} : ok d (mLk kk) n0 Q n c w 818 ls (.long z :: .long x :: st) M = ok d (mLk kk) n0 Q n c w 819 ls (.long (x ||| z) :: st) M := ok_r rfl rfl
set_option maxRecDepth 100000 in
theorem sK_819 {b : Nat} {v0 : Int32} {a0 : Int32} {a1 : Int64} (hc : c + 0 ≤ 488 + 8 * kk) (hw : w + 0 ≤ 103327 + 64 * kk) : ok d (mLk kk) n0 Q n c w 819 ls [.long a1, .int a0, .ref b, .int v0] M = (am_ob n b 11 ∧ am_big d mX11_years [.ref b, .int a0, .long a1] n M (kI fun x M' => ok d (mLk kk) n0 Q n c w 822 ls (.int x :: .int v0 :: []) M')) := ok_vir (y := (mLk kk)) (y' := mX11_years) (pc := 819) (k := 95) (ps := [1684, 1685, 1686, 110, 1687]) (c := c) (w := w) (st := [.long a1, .int a0, .ref b, .int v0]) (as := [.ref b, .int a0, .long a1]) (rest := [.int v0]) (b := b) rfl rfl rfl ⟨Nat.le_of_ble_eq_true rfl, Nat.le_of_ble_eq_true rfl, Nat.le_of_ble_eq_true rfl, hc, hw⟩ rfl rfl (am_contI (Or.inl rfl) rfl)
set_option maxRecDepth 100000 in
theorem sK_822 {x z : Int32} : ok d (mLk kk) n0 Q n c w 822 ls (.int z :: .int x :: st) M = ((x = z → ok d (mLk kk) n0 Q n c w 1695 ls st M) ∧ (¬ (x = z) → ok d (mLk kk) n0 Q n c w 825 ls st M)) := ok_ico (pc := 822) (off := 873) (k := .eq) rfl 1695 (by decide)
set_option maxRecDepth 100000 in
theorem sK_825 : ok d (mLk kk) n0 Q n c w 825 ls st M = ok d (mLk kk) n0 Q n c w 826 ls (.int 0 :: st) M := ok_r rfl (by rw [← ic_0]; rfl)
set_option maxRecDepth 100000 in
theorem sK_826 {x : Int32} (ha : am_ret (mLk kk) n0 n c w) : ok d (mLk kk) n0 Q n c w 826 ls [.int x] M = ((x = 0 ∨ x = 1) ∧ Q (some (.int x)) M) := ok_reZ rfl rfl ha
set_option maxRecDepth 100000 in
theorem sK_827 {l0 : Option Value} {x : Nat} : ok d (mLk kk) n0 Q n c w 827 (l0 :: some (.ref x) :: ls) st M = ok d (mLk kk) n0 Q n c w 828 (l0 :: some (.ref x) :: ls) (.ref x :: st) M := ok_r rfl rfl
set_option maxRecDepth 100000 in
theorem sK_828 {b : Nat}  (hc : c + 0 ≤ 488 + 8 * kk) (hw : w + 0 ≤ 103327 + 64 * kk) : ok d (mLk kk) n0 Q n c w 828 ls [.ref b] M = (am_ob n b 10 ∧ am_big d mX10_undo [.ref b] n M (kI fun x M' => ok d (mLk kk) n0 Q n c w 831 ls (.int x :: []) M')) := ok_vir (y := (mLk kk)) (y' := mX10_undo) (pc := 828) (k := 96) (ps := [775, 776, 777, 99, 778]) (c := c) (w := w) (st := [.ref b]) (as := [.ref b]) (rest := []) (b := b) rfl rfl rfl ⟨Nat.le_of_ble_eq_true rfl, Nat.le_of_ble_eq_true rfl, Nat.le_of_ble_eq_true rfl, hc, hw⟩ rfl rfl (am_contI (Or.inl rfl) rfl)
set_option maxRecDepth 100000 in
theorem sK_831 {l0 l1 : Option Value} {x : Nat} : ok d (mLk kk) n0 Q n c w 831 (l0 :: l1 :: some (.ref x) :: ls) st M = ok d (mLk kk) n0 Q n c w 832 (l0 :: l1 :: some (.ref x) :: ls) (.ref x :: st) M := ok_r rfl rfl
set_option maxRecDepth 100000 in
theorem sK_832 {b : Nat} {v0 : Int32} (hc : c + 0 ≤ 488 + 8 * kk) (hw : w + 0 ≤ 103327 + 64 * kk) : ok d (mLk kk) n0 Q n c w 832 ls [.ref b, .int v0] M = (am_ob n b 11 ∧ am_big d mX11_undo [.ref b] n M (kI fun x M' => ok d (mLk kk) n0 Q n c w 835 ls (.int x :: .int v0 :: []) M')) := ok_vir (y := (mLk kk)) (y' := mX11_undo) (pc := 832) (k := 99) (ps := [1699, 1700, 1701, 110, 1702]) (c := c) (w := w) (st := [.ref b, .int v0]) (as := [.ref b]) (rest := [.int v0]) (b := b) rfl rfl rfl ⟨Nat.le_of_ble_eq_true rfl, Nat.le_of_ble_eq_true rfl, Nat.le_of_ble_eq_true rfl, hc, hw⟩ rfl rfl (am_contI (Or.inl rfl) rfl)
set_option maxRecDepth 100000 in
theorem sK_835 {x z : Int32} : ok d (mLk kk) n0 Q n c w 835 ls (.int z :: .int x :: st) M = ((x = z → ok d (mLk kk) n0 Q n c w 1695 ls st M) ∧ (¬ (x = z) → ok d (mLk kk) n0 Q n c w 838 ls st M)) := ok_ico (pc := 835) (off := 860) (k := .eq) rfl 1695 (by decide)
set_option maxRecDepth 100000 in
theorem sK_838 : ok d (mLk kk) n0 Q n c w 838 ls st M = ok d (mLk kk) n0 Q n c w 839 ls (.int 0 :: st) M := ok_r rfl (by rw [← ic_0]; rfl)
set_option maxRecDepth 100000 in
theorem sK_839 {x : Int32} (ha : am_ret (mLk kk) n0 n c w) : ok d (mLk kk) n0 Q n c w 839 ls [.int x] M = ((x = 0 ∨ x = 1) ∧ Q (some (.int x)) M) := ok_reZ rfl rfl ha
set_option maxRecDepth 100000 in
theorem sK_840 {l0 : Option Value} {x : Nat} : ok d (mLk kk) n0 Q n c w 840 (l0 :: some (.ref x) :: ls) st M = ok d (mLk kk) n0 Q n c w 841 (l0 :: some (.ref x) :: ls) (.ref x :: st) M := ok_r rfl rfl
set_option maxRecDepth 100000 in
theorem sK_841 {x : Nat} : ok d (mLk kk) n0 Q n c w 841 (some (.ref x) :: ls) st M = ok d (mLk kk) n0 Q n c w 842 (some (.ref x) :: ls) (.ref x :: st) M := ok_r rfl rfl
set_option maxRecDepth 100000 in
theorem sK_842 {l0 l1 l2 l3 : Option Value} {x : Int32} : ok d (mLk kk) n0 Q n c w 842 (l0 :: l1 :: l2 :: l3 :: some (.int x) :: ls) st M = ok d (mLk kk) n0 Q n c w 844 (l0 :: l1 :: l2 :: l3 :: some (.int x) :: ls) (.int x :: st) M := ok_r rfl rfl
set_option maxRecDepth 100000 in
theorem sK_844 : ok d (mLk kk) n0 Q n c w 844 ls st M = ok d (mLk kk) n0 Q n c w 845 ls (.int 1 :: st) M := ok_r rfl (by rw [← ic_1]; rfl)
set_option maxRecDepth 100000 in
theorem sK_845 {x z : Int32} : ok d (mLk kk) n0 Q n c w 845 ls (.int z :: .int x :: st) M = ok d (mLk kk) n0 Q n c w 846 ls (.int (x + z) :: st) M := ok_r rfl rfl
set_option maxRecDepth 100000 in
theorem sK_846 {a : Nat} {i : Int32} : ok d (mLk kk) n0 Q n c w 846 ls (.int i :: .ref a :: st) M = (am_in n M a 1 i ∧ ok d (mLk kk) n0 Q n c w 847 ls (.int (gI M a i.toNatClampNeg) :: st) M) := ok_r rfl rfl
set_option maxRecDepth 100000 in
theorem sK_847 {x : Nat} : ok d (mLk kk) n0 Q n c w 847 (some (.ref x) :: ls) st M = ok d (mLk kk) n0 Q n c w 848 (some (.ref x) :: ls) (.ref x :: st) M := ok_r rfl rfl
set_option maxRecDepth 100000 in
theorem sK_848 {l0 l1 l2 l3 : Option Value} {x : Int32} : ok d (mLk kk) n0 Q n c w 848 (l0 :: l1 :: l2 :: l3 :: some (.int x) :: ls) st M = ok d (mLk kk) n0 Q n c w 850 (l0 :: l1 :: l2 :: l3 :: some (.int x) :: ls) (.int x :: st) M := ok_r rfl rfl
set_option maxRecDepth 100000 in
theorem sK_850 : ok d (mLk kk) n0 Q n c w 850 ls st M = ok d (mLk kk) n0 Q n c w 851 ls (.int 2 :: st) M := ok_r rfl (by rw [← ic_2]; rfl)
set_option maxRecDepth 100000 in
theorem sK_851 {x z : Int32} : ok d (mLk kk) n0 Q n c w 851 ls (.int z :: .int x :: st) M = ok d (mLk kk) n0 Q n c w 852 ls (.int (x + z) :: st) M := ok_r rfl rfl
set_option maxRecDepth 100000 in
theorem sK_852 {a : Nat} {i : Int32} : ok d (mLk kk) n0 Q n c w 852 ls (.int i :: .ref a :: st) M = (am_in n M a 1 i ∧ ok d (mLk kk) n0 Q n c w 853 ls (.int (gI M a i.toNatClampNeg) :: st) M) := ok_r rfl rfl
set_option maxRecDepth 100000 in
theorem sK_853 {b : Nat} {a0 : Int32} {a1 : Int32} (hc : c + 0 ≤ 488 + 8 * kk) (hw : w + 0 ≤ 103327 + 64 * kk) : ok d (mLk kk) n0 Q n c w 853 ls [.int a1, .int a0, .ref b] M = (am_ob n b 10 ∧ am_big d mX10_log [.ref b, .int a0, .int a1] n M (kI fun x M' => ok d (mLk kk) n0 Q n c w 856 ls (.int x :: []) M')) := ok_vir (y := (mLk kk)) (y' := mX10_log) (pc := 853) (k := 100) (ps := [792, 793, 794, 99, 795]) (c := c) (w := w) (st := [.int a1, .int a0, .ref b]) (as := [.ref b, .int a0, .int a1]) (rest := []) (b := b) rfl rfl rfl ⟨Nat.le_of_ble_eq_true rfl, Nat.le_of_ble_eq_true rfl, Nat.le_of_ble_eq_true rfl, hc, hw⟩ rfl rfl (am_contI (Or.inl rfl) rfl)
set_option maxRecDepth 100000 in
theorem sK_856 {l0 l1 : Option Value} {x : Nat} : ok d (mLk kk) n0 Q n c w 856 (l0 :: l1 :: some (.ref x) :: ls) st M = ok d (mLk kk) n0 Q n c w 857 (l0 :: l1 :: some (.ref x) :: ls) (.ref x :: st) M := ok_r rfl rfl
set_option maxRecDepth 100000 in
theorem sK_857 {x : Nat} : ok d (mLk kk) n0 Q n c w 857 (some (.ref x) :: ls) st M = ok d (mLk kk) n0 Q n c w 858 (some (.ref x) :: ls) (.ref x :: st) M := ok_r rfl rfl
set_option maxRecDepth 100000 in
theorem sK_858 {l0 l1 l2 l3 : Option Value} {x : Int32} : ok d (mLk kk) n0 Q n c w 858 (l0 :: l1 :: l2 :: l3 :: some (.int x) :: ls) st M = ok d (mLk kk) n0 Q n c w 860 (l0 :: l1 :: l2 :: l3 :: some (.int x) :: ls) (.int x :: st) M := ok_r rfl rfl
set_option maxRecDepth 100000 in
theorem sK_860 : ok d (mLk kk) n0 Q n c w 860 ls st M = ok d (mLk kk) n0 Q n c w 861 ls (.int 1 :: st) M := ok_r rfl (by rw [← ic_1]; rfl)
set_option maxRecDepth 100000 in
theorem sK_861 {x z : Int32} : ok d (mLk kk) n0 Q n c w 861 ls (.int z :: .int x :: st) M = ok d (mLk kk) n0 Q n c w 862 ls (.int (x + z) :: st) M := ok_r rfl rfl
set_option maxRecDepth 100000 in
theorem sK_862 {a : Nat} {i : Int32} : ok d (mLk kk) n0 Q n c w 862 ls (.int i :: .ref a :: st) M = (am_in n M a 1 i ∧ ok d (mLk kk) n0 Q n c w 863 ls (.int (gI M a i.toNatClampNeg) :: st) M) := ok_r rfl rfl
set_option maxRecDepth 100000 in
theorem sK_863 {x : Nat} : ok d (mLk kk) n0 Q n c w 863 (some (.ref x) :: ls) st M = ok d (mLk kk) n0 Q n c w 864 (some (.ref x) :: ls) (.ref x :: st) M := ok_r rfl rfl
set_option maxRecDepth 100000 in
theorem sK_864 {l0 l1 l2 l3 : Option Value} {x : Int32} : ok d (mLk kk) n0 Q n c w 864 (l0 :: l1 :: l2 :: l3 :: some (.int x) :: ls) st M = ok d (mLk kk) n0 Q n c w 866 (l0 :: l1 :: l2 :: l3 :: some (.int x) :: ls) (.int x :: st) M := ok_r rfl rfl
set_option maxRecDepth 100000 in
theorem sK_866 : ok d (mLk kk) n0 Q n c w 866 ls st M = ok d (mLk kk) n0 Q n c w 867 ls (.int 2 :: st) M := ok_r rfl (by rw [← ic_2]; rfl)
set_option maxRecDepth 100000 in
theorem sK_867 {x z : Int32} : ok d (mLk kk) n0 Q n c w 867 ls (.int z :: .int x :: st) M = ok d (mLk kk) n0 Q n c w 868 ls (.int (x + z) :: st) M := ok_r rfl rfl
set_option maxRecDepth 100000 in
theorem sK_868 {a : Nat} {i : Int32} : ok d (mLk kk) n0 Q n c w 868 ls (.int i :: .ref a :: st) M = (am_in n M a 1 i ∧ ok d (mLk kk) n0 Q n c w 869 ls (.int (gI M a i.toNatClampNeg) :: st) M) := ok_r rfl rfl
set_option maxRecDepth 100000 in
theorem sK_869 {b : Nat} {v0 : Int32} {a0 : Int32} {a1 : Int32} (hc : c + 0 ≤ 488 + 8 * kk) (hw : w + 0 ≤ 103327 + 64 * kk) : ok d (mLk kk) n0 Q n c w 869 ls [.int a1, .int a0, .ref b, .int v0] M = (am_ob n b 11 ∧ am_big d mX11_log [.ref b, .int a0, .int a1] n M (kI fun x M' => ok d (mLk kk) n0 Q n c w 872 ls (.int x :: .int v0 :: []) M')) := ok_vir (y := (mLk kk)) (y' := mX11_log) (pc := 869) (k := 103) (ps := [1703, 1704, 1705, 110, 1706]) (c := c) (w := w) (st := [.int a1, .int a0, .ref b, .int v0]) (as := [.ref b, .int a0, .int a1]) (rest := [.int v0]) (b := b) rfl rfl rfl ⟨Nat.le_of_ble_eq_true rfl, Nat.le_of_ble_eq_true rfl, Nat.le_of_ble_eq_true rfl, hc, hw⟩ rfl rfl (am_contI (Or.inl rfl) rfl)
set_option maxRecDepth 100000 in
theorem sK_872 {x z : Int32} : ok d (mLk kk) n0 Q n c w 872 ls (.int z :: .int x :: st) M = ((x = z → ok d (mLk kk) n0 Q n c w 1695 ls st M) ∧ (¬ (x = z) → ok d (mLk kk) n0 Q n c w 875 ls st M)) := ok_ico (pc := 872) (off := 823) (k := .eq) rfl 1695 (by decide)
set_option maxRecDepth 100000 in
theorem sK_875 : ok d (mLk kk) n0 Q n c w 875 ls st M = ok d (mLk kk) n0 Q n c w 876 ls (.int 0 :: st) M := ok_r rfl (by rw [← ic_0]; rfl)
set_option maxRecDepth 100000 in
theorem sK_876 {x : Int32} (ha : am_ret (mLk kk) n0 n c w) : ok d (mLk kk) n0 Q n c w 876 ls [.int x] M = ((x = 0 ∨ x = 1) ∧ Q (some (.int x)) M) := ok_reZ rfl rfl ha
set_option maxRecDepth 100000 in
theorem sK_877 {l0 : Option Value} {x : Nat} : ok d (mLk kk) n0 Q n c w 877 (l0 :: some (.ref x) :: ls) st M = ok d (mLk kk) n0 Q n c w 878 (l0 :: some (.ref x) :: ls) (.ref x :: st) M := ok_r rfl rfl
set_option maxRecDepth 100000 in
theorem sK_878 {x : Nat} : ok d (mLk kk) n0 Q n c w 878 (some (.ref x) :: ls) st M = ok d (mLk kk) n0 Q n c w 879 (some (.ref x) :: ls) (.ref x :: st) M := ok_r rfl rfl
set_option maxRecDepth 100000 in
theorem sK_879 {l0 l1 l2 l3 : Option Value} {x : Int32} : ok d (mLk kk) n0 Q n c w 879 (l0 :: l1 :: l2 :: l3 :: some (.int x) :: ls) st M = ok d (mLk kk) n0 Q n c w 881 (l0 :: l1 :: l2 :: l3 :: some (.int x) :: ls) (.int x :: st) M := ok_r rfl rfl
set_option maxRecDepth 100000 in
theorem sK_881 : ok d (mLk kk) n0 Q n c w 881 ls st M = ok d (mLk kk) n0 Q n c w 882 ls (.int 1 :: st) M := ok_r rfl (by rw [← ic_1]; rfl)
set_option maxRecDepth 100000 in
theorem sK_882 {x z : Int32} : ok d (mLk kk) n0 Q n c w 882 ls (.int z :: .int x :: st) M = ok d (mLk kk) n0 Q n c w 883 ls (.int (x + z) :: st) M := ok_r rfl rfl
set_option maxRecDepth 100000 in
theorem sK_883 {a : Nat} {i : Int32} : ok d (mLk kk) n0 Q n c w 883 ls (.int i :: .ref a :: st) M = (am_in n M a 1 i ∧ ok d (mLk kk) n0 Q n c w 884 ls (.int (gI M a i.toNatClampNeg) :: st) M) := ok_r rfl rfl
set_option maxRecDepth 100000 in
theorem sK_884 {x : Nat} : ok d (mLk kk) n0 Q n c w 884 (some (.ref x) :: ls) st M = ok d (mLk kk) n0 Q n c w 885 (some (.ref x) :: ls) (.ref x :: st) M := ok_r rfl rfl
set_option maxRecDepth 100000 in
theorem sK_885 {l0 l1 l2 l3 : Option Value} {x : Int32} : ok d (mLk kk) n0 Q n c w 885 (l0 :: l1 :: l2 :: l3 :: some (.int x) :: ls) st M = ok d (mLk kk) n0 Q n c w 887 (l0 :: l1 :: l2 :: l3 :: some (.int x) :: ls) (.int x :: st) M := ok_r rfl rfl
set_option maxRecDepth 100000 in
theorem sK_887 : ok d (mLk kk) n0 Q n c w 887 ls st M = ok d (mLk kk) n0 Q n c w 888 ls (.int 2 :: st) M := ok_r rfl (by rw [← ic_2]; rfl)
set_option maxRecDepth 100000 in
theorem sK_888 {x z : Int32} : ok d (mLk kk) n0 Q n c w 888 ls (.int z :: .int x :: st) M = ok d (mLk kk) n0 Q n c w 889 ls (.int (x + z) :: st) M := ok_r rfl rfl
set_option maxRecDepth 100000 in
theorem sK_889 {a : Nat} {i : Int32} : ok d (mLk kk) n0 Q n c w 889 ls (.int i :: .ref a :: st) M = (am_in n M a 1 i ∧ ok d (mLk kk) n0 Q n c w 890 ls (.int (gI M a i.toNatClampNeg) :: st) M) := ok_r rfl rfl
set_option maxRecDepth 100000 in
theorem sK_890 {x : Nat} : ok d (mLk kk) n0 Q n c w 890 (some (.ref x) :: ls) st M = ok d (mLk kk) n0 Q n c w 891 (some (.ref x) :: ls) (.ref x :: st) M := ok_r rfl rfl
set_option maxRecDepth 100000 in
theorem sK_891 {l0 l1 l2 l3 : Option Value} {x : Int32} : ok d (mLk kk) n0 Q n c w 891 (l0 :: l1 :: l2 :: l3 :: some (.int x) :: ls) st M = ok d (mLk kk) n0 Q n c w 893 (l0 :: l1 :: l2 :: l3 :: some (.int x) :: ls) (.int x :: st) M := ok_r rfl rfl
set_option maxRecDepth 100000 in
theorem sK_893 : ok d (mLk kk) n0 Q n c w 893 ls st M = ok d (mLk kk) n0 Q n c w 894 ls (.int 3 :: st) M := ok_r rfl (by rw [← ic_3]; rfl)
set_option maxRecDepth 100000 in
theorem sK_894 {x z : Int32} : ok d (mLk kk) n0 Q n c w 894 ls (.int z :: .int x :: st) M = ok d (mLk kk) n0 Q n c w 895 ls (.int (x + z) :: st) M := ok_r rfl rfl
set_option maxRecDepth 100000 in
theorem sK_895 {a : Nat} {i : Int32} : ok d (mLk kk) n0 Q n c w 895 ls (.int i :: .ref a :: st) M = (am_in n M a 1 i ∧ ok d (mLk kk) n0 Q n c w 896 ls (.int (gI M a i.toNatClampNeg) :: st) M) := ok_r rfl rfl
set_option maxRecDepth 100000 in
theorem sK_896 {b : Nat} {a0 : Int32} {a1 : Int32} {a2 : Int32} (hc : c + 0 ≤ 488 + 8 * kk) (hw : w + 0 ≤ 103327 + 64 * kk) : ok d (mLk kk) n0 Q n c w 896 ls [.int a2, .int a1, .int a0, .ref b] M = (am_ob n b 10 ∧ am_big d mX10_step [.ref b, .int a0, .int a1, .int a2] n M (kI fun x M' => ok d (mLk kk) n0 Q n c w 899 ls (.int x :: []) M')) := ok_vir (y := (mLk kk)) (y' := mX10_step) (pc := 896) (k := 104) (ps := [803, 804, 805, 99, 806]) (c := c) (w := w) (st := [.int a2, .int a1, .int a0, .ref b]) (as := [.ref b, .int a0, .int a1, .int a2]) (rest := []) (b := b) rfl rfl rfl ⟨Nat.le_of_ble_eq_true rfl, Nat.le_of_ble_eq_true rfl, Nat.le_of_ble_eq_true rfl, hc, hw⟩ rfl rfl (am_contI (Or.inl rfl) rfl)
set_option maxRecDepth 100000 in
theorem sK_899 {l0 l1 : Option Value} {x : Nat} : ok d (mLk kk) n0 Q n c w 899 (l0 :: l1 :: some (.ref x) :: ls) st M = ok d (mLk kk) n0 Q n c w 900 (l0 :: l1 :: some (.ref x) :: ls) (.ref x :: st) M := ok_r rfl rfl
set_option maxRecDepth 100000 in
theorem sK_900 {x : Nat} : ok d (mLk kk) n0 Q n c w 900 (some (.ref x) :: ls) st M = ok d (mLk kk) n0 Q n c w 901 (some (.ref x) :: ls) (.ref x :: st) M := ok_r rfl rfl
set_option maxRecDepth 100000 in
theorem sK_901 {l0 l1 l2 l3 : Option Value} {x : Int32} : ok d (mLk kk) n0 Q n c w 901 (l0 :: l1 :: l2 :: l3 :: some (.int x) :: ls) st M = ok d (mLk kk) n0 Q n c w 903 (l0 :: l1 :: l2 :: l3 :: some (.int x) :: ls) (.int x :: st) M := ok_r rfl rfl
set_option maxRecDepth 100000 in
theorem sK_903 : ok d (mLk kk) n0 Q n c w 903 ls st M = ok d (mLk kk) n0 Q n c w 904 ls (.int 1 :: st) M := ok_r rfl (by rw [← ic_1]; rfl)
set_option maxRecDepth 100000 in
theorem sK_904 {x z : Int32} : ok d (mLk kk) n0 Q n c w 904 ls (.int z :: .int x :: st) M = ok d (mLk kk) n0 Q n c w 905 ls (.int (x + z) :: st) M := ok_r rfl rfl
set_option maxRecDepth 100000 in
theorem sK_905 {a : Nat} {i : Int32} : ok d (mLk kk) n0 Q n c w 905 ls (.int i :: .ref a :: st) M = (am_in n M a 1 i ∧ ok d (mLk kk) n0 Q n c w 906 ls (.int (gI M a i.toNatClampNeg) :: st) M) := ok_r rfl rfl
set_option maxRecDepth 100000 in
theorem sK_906 {x : Nat} : ok d (mLk kk) n0 Q n c w 906 (some (.ref x) :: ls) st M = ok d (mLk kk) n0 Q n c w 907 (some (.ref x) :: ls) (.ref x :: st) M := ok_r rfl rfl
set_option maxRecDepth 100000 in
theorem sK_907 {l0 l1 l2 l3 : Option Value} {x : Int32} : ok d (mLk kk) n0 Q n c w 907 (l0 :: l1 :: l2 :: l3 :: some (.int x) :: ls) st M = ok d (mLk kk) n0 Q n c w 909 (l0 :: l1 :: l2 :: l3 :: some (.int x) :: ls) (.int x :: st) M := ok_r rfl rfl
set_option maxRecDepth 100000 in
theorem sK_909 : ok d (mLk kk) n0 Q n c w 909 ls st M = ok d (mLk kk) n0 Q n c w 910 ls (.int 2 :: st) M := ok_r rfl (by rw [← ic_2]; rfl)
set_option maxRecDepth 100000 in
theorem sK_910 {x z : Int32} : ok d (mLk kk) n0 Q n c w 910 ls (.int z :: .int x :: st) M = ok d (mLk kk) n0 Q n c w 911 ls (.int (x + z) :: st) M := ok_r rfl rfl
set_option maxRecDepth 100000 in
theorem sK_911 {a : Nat} {i : Int32} : ok d (mLk kk) n0 Q n c w 911 ls (.int i :: .ref a :: st) M = (am_in n M a 1 i ∧ ok d (mLk kk) n0 Q n c w 912 ls (.int (gI M a i.toNatClampNeg) :: st) M) := ok_r rfl rfl
set_option maxRecDepth 100000 in
theorem sK_912 {x : Nat} : ok d (mLk kk) n0 Q n c w 912 (some (.ref x) :: ls) st M = ok d (mLk kk) n0 Q n c w 913 (some (.ref x) :: ls) (.ref x :: st) M := ok_r rfl rfl
set_option maxRecDepth 100000 in
theorem sK_913 {l0 l1 l2 l3 : Option Value} {x : Int32} : ok d (mLk kk) n0 Q n c w 913 (l0 :: l1 :: l2 :: l3 :: some (.int x) :: ls) st M = ok d (mLk kk) n0 Q n c w 915 (l0 :: l1 :: l2 :: l3 :: some (.int x) :: ls) (.int x :: st) M := ok_r rfl rfl
set_option maxRecDepth 100000 in
theorem sK_915 : ok d (mLk kk) n0 Q n c w 915 ls st M = ok d (mLk kk) n0 Q n c w 916 ls (.int 3 :: st) M := ok_r rfl (by rw [← ic_3]; rfl)
set_option maxRecDepth 100000 in
theorem sK_916 {x z : Int32} : ok d (mLk kk) n0 Q n c w 916 ls (.int z :: .int x :: st) M = ok d (mLk kk) n0 Q n c w 917 ls (.int (x + z) :: st) M := ok_r rfl rfl
set_option maxRecDepth 100000 in
theorem sK_917 {a : Nat} {i : Int32} : ok d (mLk kk) n0 Q n c w 917 ls (.int i :: .ref a :: st) M = (am_in n M a 1 i ∧ ok d (mLk kk) n0 Q n c w 918 ls (.int (gI M a i.toNatClampNeg) :: st) M) := ok_r rfl rfl
set_option maxRecDepth 100000 in
theorem sK_918 {b : Nat} {v0 : Int32} {a0 : Int32} {a1 : Int32} {a2 : Int32} (hc : c + 0 ≤ 488 + 8 * kk) (hw : w + 0 ≤ 103327 + 64 * kk) : ok d (mLk kk) n0 Q n c w 918 ls [.int a2, .int a1, .int a0, .ref b, .int v0] M = (am_ob n b 11 ∧ am_big d mX11_step [.ref b, .int a0, .int a1, .int a2] n M (kI fun x M' => ok d (mLk kk) n0 Q n c w 921 ls (.int x :: .int v0 :: []) M')) := ok_vir (y := (mLk kk)) (y' := mX11_step) (pc := 918) (k := 107) (ps := [1707, 1708, 1709, 110, 1710]) (c := c) (w := w) (st := [.int a2, .int a1, .int a0, .ref b, .int v0]) (as := [.ref b, .int a0, .int a1, .int a2]) (rest := [.int v0]) (b := b) rfl rfl rfl ⟨Nat.le_of_ble_eq_true rfl, Nat.le_of_ble_eq_true rfl, Nat.le_of_ble_eq_true rfl, hc, hw⟩ rfl rfl (am_contI (Or.inl rfl) rfl)
set_option maxRecDepth 100000 in
theorem sK_921 {x z : Int32} : ok d (mLk kk) n0 Q n c w 921 ls (.int z :: .int x :: st) M = ((x = z → ok d (mLk kk) n0 Q n c w 1695 ls st M) ∧ (¬ (x = z) → ok d (mLk kk) n0 Q n c w 924 ls st M)) := ok_ico (pc := 921) (off := 774) (k := .eq) rfl 1695 (by decide)
set_option maxRecDepth 100000 in
theorem sK_924 : ok d (mLk kk) n0 Q n c w 924 ls st M = ok d (mLk kk) n0 Q n c w 925 ls (.int 0 :: st) M := ok_r rfl (by rw [← ic_0]; rfl)
set_option maxRecDepth 100000 in
theorem sK_925 {x : Int32} (ha : am_ret (mLk kk) n0 n c w) : ok d (mLk kk) n0 Q n c w 925 ls [.int x] M = ((x = 0 ∨ x = 1) ∧ Q (some (.int x)) M) := ok_reZ rfl rfl ha
set_option maxRecDepth 100000 in
theorem sK_926 {l0 : Option Value} {x : Nat} : ok d (mLk kk) n0 Q n c w 926 (l0 :: some (.ref x) :: ls) st M = ok d (mLk kk) n0 Q n c w 927 (l0 :: some (.ref x) :: ls) (.ref x :: st) M := ok_r rfl rfl
set_option maxRecDepth 100000 in
theorem sK_927 {x : Nat} : ok d (mLk kk) n0 Q n c w 927 (some (.ref x) :: ls) st M = ok d (mLk kk) n0 Q n c w 928 (some (.ref x) :: ls) (.ref x :: st) M := ok_r rfl rfl
set_option maxRecDepth 100000 in
theorem sK_928 {l0 l1 l2 l3 : Option Value} {x : Int32} : ok d (mLk kk) n0 Q n c w 928 (l0 :: l1 :: l2 :: l3 :: some (.int x) :: ls) st M = ok d (mLk kk) n0 Q n c w 930 (l0 :: l1 :: l2 :: l3 :: some (.int x) :: ls) (.int x :: st) M := ok_r rfl rfl
set_option maxRecDepth 100000 in
theorem sK_930 : ok d (mLk kk) n0 Q n c w 930 ls st M = ok d (mLk kk) n0 Q n c w 931 ls (.int 1 :: st) M := ok_r rfl (by rw [← ic_1]; rfl)
set_option maxRecDepth 100000 in
theorem sK_931 {x z : Int32} : ok d (mLk kk) n0 Q n c w 931 ls (.int z :: .int x :: st) M = ok d (mLk kk) n0 Q n c w 932 ls (.int (x + z) :: st) M := ok_r rfl rfl
set_option maxRecDepth 100000 in
theorem sK_932 {a : Nat} {i : Int32} : ok d (mLk kk) n0 Q n c w 932 ls (.int i :: .ref a :: st) M = (am_in n M a 1 i ∧ ok d (mLk kk) n0 Q n c w 933 ls (.int (gI M a i.toNatClampNeg) :: st) M) := ok_r rfl rfl
set_option maxRecDepth 100000 in
theorem sK_933 {x : Nat} : ok d (mLk kk) n0 Q n c w 933 (some (.ref x) :: ls) st M = ok d (mLk kk) n0 Q n c w 934 (some (.ref x) :: ls) (.ref x :: st) M := ok_r rfl rfl
set_option maxRecDepth 100000 in
theorem sK_934 {l0 l1 l2 l3 : Option Value} {x : Int32} : ok d (mLk kk) n0 Q n c w 934 (l0 :: l1 :: l2 :: l3 :: some (.int x) :: ls) st M = ok d (mLk kk) n0 Q n c w 936 (l0 :: l1 :: l2 :: l3 :: some (.int x) :: ls) (.int x :: st) M := ok_r rfl rfl
set_option maxRecDepth 100000 in
theorem sK_936 : ok d (mLk kk) n0 Q n c w 936 ls st M = ok d (mLk kk) n0 Q n c w 937 ls (.int 2 :: st) M := ok_r rfl (by rw [← ic_2]; rfl)
set_option maxRecDepth 100000 in
theorem sK_937 {x z : Int32} : ok d (mLk kk) n0 Q n c w 937 ls (.int z :: .int x :: st) M = ok d (mLk kk) n0 Q n c w 938 ls (.int (x + z) :: st) M := ok_r rfl rfl
set_option maxRecDepth 100000 in
theorem sK_938 {a : Nat} {i : Int32} : ok d (mLk kk) n0 Q n c w 938 ls (.int i :: .ref a :: st) M = (am_in n M a 1 i ∧ ok d (mLk kk) n0 Q n c w 939 ls (.int (gI M a i.toNatClampNeg) :: st) M) := ok_r rfl rfl
set_option maxRecDepth 100000 in
theorem sK_939 {b : Nat} {a0 : Int32} {a1 : Int32} (hc : c + 0 ≤ 488 + 8 * kk) (hw : w + 0 ≤ 103327 + 64 * kk) : ok d (mLk kk) n0 Q n c w 939 ls [.int a1, .int a0, .ref b] M = (am_ob n b 10 ∧ am_big d mX10_run [.ref b, .int a0, .int a1] n M (kI fun x M' => ok d (mLk kk) n0 Q n c w 942 ls (.int x :: []) M')) := ok_vir (y := (mLk kk)) (y' := mX10_run) (pc := 939) (k := 108) (ps := [807, 808, 809, 99, 810]) (c := c) (w := w) (st := [.int a1, .int a0, .ref b]) (as := [.ref b, .int a0, .int a1]) (rest := []) (b := b) rfl rfl rfl ⟨Nat.le_of_ble_eq_true rfl, Nat.le_of_ble_eq_true rfl, Nat.le_of_ble_eq_true rfl, hc, hw⟩ rfl rfl (am_contI (Or.inl rfl) rfl)
set_option maxRecDepth 100000 in
theorem sK_942 {l0 l1 : Option Value} {x : Nat} : ok d (mLk kk) n0 Q n c w 942 (l0 :: l1 :: some (.ref x) :: ls) st M = ok d (mLk kk) n0 Q n c w 943 (l0 :: l1 :: some (.ref x) :: ls) (.ref x :: st) M := ok_r rfl rfl
set_option maxRecDepth 100000 in
theorem sK_943 {x : Nat} : ok d (mLk kk) n0 Q n c w 943 (some (.ref x) :: ls) st M = ok d (mLk kk) n0 Q n c w 944 (some (.ref x) :: ls) (.ref x :: st) M := ok_r rfl rfl
set_option maxRecDepth 100000 in
theorem sK_944 {l0 l1 l2 l3 : Option Value} {x : Int32} : ok d (mLk kk) n0 Q n c w 944 (l0 :: l1 :: l2 :: l3 :: some (.int x) :: ls) st M = ok d (mLk kk) n0 Q n c w 946 (l0 :: l1 :: l2 :: l3 :: some (.int x) :: ls) (.int x :: st) M := ok_r rfl rfl
set_option maxRecDepth 100000 in
theorem sK_946 : ok d (mLk kk) n0 Q n c w 946 ls st M = ok d (mLk kk) n0 Q n c w 947 ls (.int 1 :: st) M := ok_r rfl (by rw [← ic_1]; rfl)
set_option maxRecDepth 100000 in
theorem sK_947 {x z : Int32} : ok d (mLk kk) n0 Q n c w 947 ls (.int z :: .int x :: st) M = ok d (mLk kk) n0 Q n c w 948 ls (.int (x + z) :: st) M := ok_r rfl rfl
set_option maxRecDepth 100000 in
theorem sK_948 {a : Nat} {i : Int32} : ok d (mLk kk) n0 Q n c w 948 ls (.int i :: .ref a :: st) M = (am_in n M a 1 i ∧ ok d (mLk kk) n0 Q n c w 949 ls (.int (gI M a i.toNatClampNeg) :: st) M) := ok_r rfl rfl
set_option maxRecDepth 100000 in
theorem sK_949 {x : Nat} : ok d (mLk kk) n0 Q n c w 949 (some (.ref x) :: ls) st M = ok d (mLk kk) n0 Q n c w 950 (some (.ref x) :: ls) (.ref x :: st) M := ok_r rfl rfl
set_option maxRecDepth 100000 in
theorem sK_950 {l0 l1 l2 l3 : Option Value} {x : Int32} : ok d (mLk kk) n0 Q n c w 950 (l0 :: l1 :: l2 :: l3 :: some (.int x) :: ls) st M = ok d (mLk kk) n0 Q n c w 952 (l0 :: l1 :: l2 :: l3 :: some (.int x) :: ls) (.int x :: st) M := ok_r rfl rfl
set_option maxRecDepth 100000 in
theorem sK_952 : ok d (mLk kk) n0 Q n c w 952 ls st M = ok d (mLk kk) n0 Q n c w 953 ls (.int 2 :: st) M := ok_r rfl (by rw [← ic_2]; rfl)
set_option maxRecDepth 100000 in
theorem sK_953 {x z : Int32} : ok d (mLk kk) n0 Q n c w 953 ls (.int z :: .int x :: st) M = ok d (mLk kk) n0 Q n c w 954 ls (.int (x + z) :: st) M := ok_r rfl rfl
set_option maxRecDepth 100000 in
theorem sK_954 {a : Nat} {i : Int32} : ok d (mLk kk) n0 Q n c w 954 ls (.int i :: .ref a :: st) M = (am_in n M a 1 i ∧ ok d (mLk kk) n0 Q n c w 955 ls (.int (gI M a i.toNatClampNeg) :: st) M) := ok_r rfl rfl
set_option maxRecDepth 100000 in
theorem sK_955 {b : Nat} {v0 : Int32} {a0 : Int32} {a1 : Int32} (hc : c + 0 ≤ 488 + 8 * kk) (hw : w + 0 ≤ 103327 + 64 * kk) : ok d (mLk kk) n0 Q n c w 955 ls [.int a1, .int a0, .ref b, .int v0] M = (am_ob n b 11 ∧ am_big d mX11_run [.ref b, .int a0, .int a1] n M (kI fun x M' => ok d (mLk kk) n0 Q n c w 958 ls (.int x :: .int v0 :: []) M')) := ok_vir (y := (mLk kk)) (y' := mX11_run) (pc := 955) (k := 111) (ps := [1715, 1716, 1717, 110, 1718]) (c := c) (w := w) (st := [.int a1, .int a0, .ref b, .int v0]) (as := [.ref b, .int a0, .int a1]) (rest := [.int v0]) (b := b) rfl rfl rfl ⟨Nat.le_of_ble_eq_true rfl, Nat.le_of_ble_eq_true rfl, Nat.le_of_ble_eq_true rfl, hc, hw⟩ rfl rfl (am_contI (Or.inl rfl) rfl)
set_option maxRecDepth 100000 in
theorem sK_958 {x z : Int32} : ok d (mLk kk) n0 Q n c w 958 ls (.int z :: .int x :: st) M = ((x = z → ok d (mLk kk) n0 Q n c w 1695 ls st M) ∧ (¬ (x = z) → ok d (mLk kk) n0 Q n c w 961 ls st M)) := ok_ico (pc := 958) (off := 737) (k := .eq) rfl 1695 (by decide)
set_option maxRecDepth 100000 in
theorem sK_961 : ok d (mLk kk) n0 Q n c w 961 ls st M = ok d (mLk kk) n0 Q n c w 962 ls (.int 0 :: st) M := ok_r rfl (by rw [← ic_0]; rfl)
set_option maxRecDepth 100000 in
theorem sK_962 {x : Int32} (ha : am_ret (mLk kk) n0 n c w) : ok d (mLk kk) n0 Q n c w 962 ls [.int x] M = ((x = 0 ∨ x = 1) ∧ Q (some (.int x)) M) := ok_reZ rfl rfl ha
set_option maxRecDepth 100000 in
theorem sK_963 {l0 : Option Value} {x : Nat} : ok d (mLk kk) n0 Q n c w 963 (l0 :: some (.ref x) :: ls) st M = ok d (mLk kk) n0 Q n c w 964 (l0 :: some (.ref x) :: ls) (.ref x :: st) M := ok_r rfl rfl
set_option maxRecDepth 100000 in
theorem sK_964 {x : Nat} : ok d (mLk kk) n0 Q n c w 964 (some (.ref x) :: ls) st M = ok d (mLk kk) n0 Q n c w 965 (some (.ref x) :: ls) (.ref x :: st) M := ok_r rfl rfl
set_option maxRecDepth 100000 in
theorem sK_965 {l0 l1 l2 l3 : Option Value} {x : Int32} : ok d (mLk kk) n0 Q n c w 965 (l0 :: l1 :: l2 :: l3 :: some (.int x) :: ls) st M = ok d (mLk kk) n0 Q n c w 967 (l0 :: l1 :: l2 :: l3 :: some (.int x) :: ls) (.int x :: st) M := ok_r rfl rfl
set_option maxRecDepth 100000 in
theorem sK_967 : ok d (mLk kk) n0 Q n c w 967 ls st M = ok d (mLk kk) n0 Q n c w 968 ls (.int 1 :: st) M := ok_r rfl (by rw [← ic_1]; rfl)
set_option maxRecDepth 100000 in
theorem sK_968 {x z : Int32} : ok d (mLk kk) n0 Q n c w 968 ls (.int z :: .int x :: st) M = ok d (mLk kk) n0 Q n c w 969 ls (.int (x + z) :: st) M := ok_r rfl rfl
set_option maxRecDepth 100000 in
theorem sK_969 {a : Nat} {i : Int32} : ok d (mLk kk) n0 Q n c w 969 ls (.int i :: .ref a :: st) M = (am_in n M a 1 i ∧ ok d (mLk kk) n0 Q n c w 970 ls (.int (gI M a i.toNatClampNeg) :: st) M) := ok_r rfl rfl
set_option maxRecDepth 100000 in
theorem sK_970 {b : Nat} {a0 : Int32} (hc : c + 0 ≤ 488 + 8 * kk) (hw : w + 0 ≤ 103327 + 64 * kk) : ok d (mLk kk) n0 Q n c w 970 ls [.int a0, .ref b] M = (am_ob n b 10 ∧ am_big d mX10_perform [.ref b, .int a0] n M (kI fun x M' => ok d (mLk kk) n0 Q n c w 973 ls (.int x :: []) M')) := ok_vir (y := (mLk kk)) (y' := mX10_perform) (pc := 970) (k := 112) (ps := [783, 784, 785, 99, 786]) (c := c) (w := w) (st := [.int a0, .ref b]) (as := [.ref b, .int a0]) (rest := []) (b := b) rfl rfl rfl ⟨Nat.le_of_ble_eq_true rfl, Nat.le_of_ble_eq_true rfl, Nat.le_of_ble_eq_true rfl, hc, hw⟩ rfl rfl (am_contI (Or.inl rfl) rfl)
set_option maxRecDepth 100000 in
theorem sK_973 {l0 l1 : Option Value} {x : Nat} : ok d (mLk kk) n0 Q n c w 973 (l0 :: l1 :: some (.ref x) :: ls) st M = ok d (mLk kk) n0 Q n c w 974 (l0 :: l1 :: some (.ref x) :: ls) (.ref x :: st) M := ok_r rfl rfl
set_option maxRecDepth 100000 in
theorem sK_974 {x : Nat} : ok d (mLk kk) n0 Q n c w 974 (some (.ref x) :: ls) st M = ok d (mLk kk) n0 Q n c w 975 (some (.ref x) :: ls) (.ref x :: st) M := ok_r rfl rfl
set_option maxRecDepth 100000 in
theorem sK_975 {l0 l1 l2 l3 : Option Value} {x : Int32} : ok d (mLk kk) n0 Q n c w 975 (l0 :: l1 :: l2 :: l3 :: some (.int x) :: ls) st M = ok d (mLk kk) n0 Q n c w 977 (l0 :: l1 :: l2 :: l3 :: some (.int x) :: ls) (.int x :: st) M := ok_r rfl rfl
set_option maxRecDepth 100000 in
theorem sK_977 : ok d (mLk kk) n0 Q n c w 977 ls st M = ok d (mLk kk) n0 Q n c w 978 ls (.int 1 :: st) M := ok_r rfl (by rw [← ic_1]; rfl)
set_option maxRecDepth 100000 in
theorem sK_978 {x z : Int32} : ok d (mLk kk) n0 Q n c w 978 ls (.int z :: .int x :: st) M = ok d (mLk kk) n0 Q n c w 979 ls (.int (x + z) :: st) M := ok_r rfl rfl
set_option maxRecDepth 100000 in
theorem sK_979 {a : Nat} {i : Int32} : ok d (mLk kk) n0 Q n c w 979 ls (.int i :: .ref a :: st) M = (am_in n M a 1 i ∧ ok d (mLk kk) n0 Q n c w 980 ls (.int (gI M a i.toNatClampNeg) :: st) M) := ok_r rfl rfl
set_option maxRecDepth 100000 in
theorem sK_980 {b : Nat} {v0 : Int32} {a0 : Int32} (hc : c + 0 ≤ 488 + 8 * kk) (hw : w + 0 ≤ 103327 + 64 * kk) : ok d (mLk kk) n0 Q n c w 980 ls [.int a0, .ref b, .int v0] M = (am_ob n b 11 ∧ am_big d mX11_perform [.ref b, .int a0] n M (kI fun x M' => ok d (mLk kk) n0 Q n c w 983 ls (.int x :: .int v0 :: []) M')) := ok_vir (y := (mLk kk)) (y' := mX11_perform) (pc := 980) (k := 115) (ps := [1727, 1728, 1729, 110, 1730]) (c := c) (w := w) (st := [.int a0, .ref b, .int v0]) (as := [.ref b, .int a0]) (rest := [.int v0]) (b := b) rfl rfl rfl ⟨Nat.le_of_ble_eq_true rfl, Nat.le_of_ble_eq_true rfl, Nat.le_of_ble_eq_true rfl, hc, hw⟩ rfl rfl (am_contI (Or.inl rfl) rfl)
set_option maxRecDepth 100000 in
theorem sK_983 {x z : Int32} : ok d (mLk kk) n0 Q n c w 983 ls (.int z :: .int x :: st) M = ((x = z → ok d (mLk kk) n0 Q n c w 1695 ls st M) ∧ (¬ (x = z) → ok d (mLk kk) n0 Q n c w 986 ls st M)) := ok_ico (pc := 983) (off := 712) (k := .eq) rfl 1695 (by decide)
set_option maxRecDepth 100000 in
theorem sK_986 : ok d (mLk kk) n0 Q n c w 986 ls st M = ok d (mLk kk) n0 Q n c w 987 ls (.int 0 :: st) M := ok_r rfl (by rw [← ic_0]; rfl)
set_option maxRecDepth 100000 in
theorem sK_987 {x : Int32} (ha : am_ret (mLk kk) n0 n c w) : ok d (mLk kk) n0 Q n c w 987 ls [.int x] M = ((x = 0 ∨ x = 1) ∧ Q (some (.int x)) M) := ok_reZ rfl rfl ha
set_option maxRecDepth 100000 in
theorem sK_988 {l0 : Option Value} {x : Nat} : ok d (mLk kk) n0 Q n c w 988 (l0 :: some (.ref x) :: ls) st M = ok d (mLk kk) n0 Q n c w 989 (l0 :: some (.ref x) :: ls) (.ref x :: st) M := ok_r rfl rfl
set_option maxRecDepth 100000 in
theorem sK_989 {x : Nat} : ok d (mLk kk) n0 Q n c w 989 (some (.ref x) :: ls) st M = ok d (mLk kk) n0 Q n c w 990 (some (.ref x) :: ls) (.ref x :: st) M := ok_r rfl rfl
set_option maxRecDepth 100000 in
theorem sK_990 {l0 l1 l2 l3 : Option Value} {x : Int32} : ok d (mLk kk) n0 Q n c w 990 (l0 :: l1 :: l2 :: l3 :: some (.int x) :: ls) st M = ok d (mLk kk) n0 Q n c w 992 (l0 :: l1 :: l2 :: l3 :: some (.int x) :: ls) (.int x :: st) M := ok_r rfl rfl
set_option maxRecDepth 100000 in
theorem sK_992 : ok d (mLk kk) n0 Q n c w 992 ls st M = ok d (mLk kk) n0 Q n c w 993 ls (.int 1 :: st) M := ok_r rfl (by rw [← ic_1]; rfl)
set_option maxRecDepth 100000 in
theorem sK_993 {x z : Int32} : ok d (mLk kk) n0 Q n c w 993 ls (.int z :: .int x :: st) M = ok d (mLk kk) n0 Q n c w 994 ls (.int (x + z) :: st) M := ok_r rfl rfl
set_option maxRecDepth 100000 in
theorem sK_994 {a : Nat} {i : Int32} : ok d (mLk kk) n0 Q n c w 994 ls (.int i :: .ref a :: st) M = (am_in n M a 1 i ∧ ok d (mLk kk) n0 Q n c w 995 ls (.int (gI M a i.toNatClampNeg) :: st) M) := ok_r rfl rfl
set_option maxRecDepth 100000 in
theorem sK_995 {x : Nat} : ok d (mLk kk) n0 Q n c w 995 (some (.ref x) :: ls) st M = ok d (mLk kk) n0 Q n c w 996 (some (.ref x) :: ls) (.ref x :: st) M := ok_r rfl rfl
set_option maxRecDepth 100000 in
theorem sK_996 {l0 l1 l2 l3 : Option Value} {x : Int32} : ok d (mLk kk) n0 Q n c w 996 (l0 :: l1 :: l2 :: l3 :: some (.int x) :: ls) st M = ok d (mLk kk) n0 Q n c w 998 (l0 :: l1 :: l2 :: l3 :: some (.int x) :: ls) (.int x :: st) M := ok_r rfl rfl
set_option maxRecDepth 100000 in
theorem sK_998 : ok d (mLk kk) n0 Q n c w 998 ls st M = ok d (mLk kk) n0 Q n c w 999 ls (.int 2 :: st) M := ok_r rfl (by rw [← ic_2]; rfl)
set_option maxRecDepth 100000 in
theorem sK_999 {x z : Int32} : ok d (mLk kk) n0 Q n c w 999 ls (.int z :: .int x :: st) M = ok d (mLk kk) n0 Q n c w 1000 ls (.int (x + z) :: st) M := ok_r rfl rfl
set_option maxRecDepth 100000 in
theorem sK_1000 {a : Nat} {i : Int32} : ok d (mLk kk) n0 Q n c w 1000 ls (.int i :: .ref a :: st) M = (am_in n M a 1 i ∧ ok d (mLk kk) n0 Q n c w 1001 ls (.int (gI M a i.toNatClampNeg) :: st) M) := ok_r rfl rfl
set_option maxRecDepth 100000 in
theorem sK_1001 {b : Nat} {a0 : Int32} {a1 : Int32} (hc : c + 0 ≤ 488 + 8 * kk) (hw : w + 0 ≤ 103327 + 64 * kk) : ok d (mLk kk) n0 Q n c w 1001 ls [.int a1, .int a0, .ref b] M = (am_ob n b 10 ∧ am_big d mX10_alike [.ref b, .int a0, .int a1] n M (kI fun x M' => ok d (mLk kk) n0 Q n c w 1004 ls (.int x :: []) M')) := ok_vir (y := (mLk kk)) (y' := mX10_alike) (pc := 1001) (k := 116) (ps := [817, 818, 819, 99, 820]) (c := c) (w := w) (st := [.int a1, .int a0, .ref b]) (as := [.ref b, .int a0, .int a1]) (rest := []) (b := b) rfl rfl rfl ⟨Nat.le_of_ble_eq_true rfl, Nat.le_of_ble_eq_true rfl, Nat.le_of_ble_eq_true rfl, hc, hw⟩ rfl rfl (am_contI (Or.inl rfl) rfl)
set_option maxRecDepth 100000 in
theorem sK_1004 {l0 l1 : Option Value} {x : Nat} : ok d (mLk kk) n0 Q n c w 1004 (l0 :: l1 :: some (.ref x) :: ls) st M = ok d (mLk kk) n0 Q n c w 1005 (l0 :: l1 :: some (.ref x) :: ls) (.ref x :: st) M := ok_r rfl rfl
set_option maxRecDepth 100000 in
theorem sK_1005 {x : Nat} : ok d (mLk kk) n0 Q n c w 1005 (some (.ref x) :: ls) st M = ok d (mLk kk) n0 Q n c w 1006 (some (.ref x) :: ls) (.ref x :: st) M := ok_r rfl rfl
set_option maxRecDepth 100000 in
theorem sK_1006 {l0 l1 l2 l3 : Option Value} {x : Int32} : ok d (mLk kk) n0 Q n c w 1006 (l0 :: l1 :: l2 :: l3 :: some (.int x) :: ls) st M = ok d (mLk kk) n0 Q n c w 1008 (l0 :: l1 :: l2 :: l3 :: some (.int x) :: ls) (.int x :: st) M := ok_r rfl rfl
set_option maxRecDepth 100000 in
theorem sK_1008 : ok d (mLk kk) n0 Q n c w 1008 ls st M = ok d (mLk kk) n0 Q n c w 1009 ls (.int 1 :: st) M := ok_r rfl (by rw [← ic_1]; rfl)
set_option maxRecDepth 100000 in
theorem sK_1009 {x z : Int32} : ok d (mLk kk) n0 Q n c w 1009 ls (.int z :: .int x :: st) M = ok d (mLk kk) n0 Q n c w 1010 ls (.int (x + z) :: st) M := ok_r rfl rfl
set_option maxRecDepth 100000 in
theorem sK_1010 {a : Nat} {i : Int32} : ok d (mLk kk) n0 Q n c w 1010 ls (.int i :: .ref a :: st) M = (am_in n M a 1 i ∧ ok d (mLk kk) n0 Q n c w 1011 ls (.int (gI M a i.toNatClampNeg) :: st) M) := ok_r rfl rfl
set_option maxRecDepth 100000 in
theorem sK_1011 {x : Nat} : ok d (mLk kk) n0 Q n c w 1011 (some (.ref x) :: ls) st M = ok d (mLk kk) n0 Q n c w 1012 (some (.ref x) :: ls) (.ref x :: st) M := ok_r rfl rfl
set_option maxRecDepth 100000 in
theorem sK_1012 {l0 l1 l2 l3 : Option Value} {x : Int32} : ok d (mLk kk) n0 Q n c w 1012 (l0 :: l1 :: l2 :: l3 :: some (.int x) :: ls) st M = ok d (mLk kk) n0 Q n c w 1014 (l0 :: l1 :: l2 :: l3 :: some (.int x) :: ls) (.int x :: st) M := ok_r rfl rfl
set_option maxRecDepth 100000 in
theorem sK_1014 : ok d (mLk kk) n0 Q n c w 1014 ls st M = ok d (mLk kk) n0 Q n c w 1015 ls (.int 2 :: st) M := ok_r rfl (by rw [← ic_2]; rfl)
set_option maxRecDepth 100000 in
theorem sK_1015 {x z : Int32} : ok d (mLk kk) n0 Q n c w 1015 ls (.int z :: .int x :: st) M = ok d (mLk kk) n0 Q n c w 1016 ls (.int (x + z) :: st) M := ok_r rfl rfl
set_option maxRecDepth 100000 in
theorem sK_1016 {a : Nat} {i : Int32} : ok d (mLk kk) n0 Q n c w 1016 ls (.int i :: .ref a :: st) M = (am_in n M a 1 i ∧ ok d (mLk kk) n0 Q n c w 1017 ls (.int (gI M a i.toNatClampNeg) :: st) M) := ok_r rfl rfl
set_option maxRecDepth 100000 in
theorem sK_1017 {b : Nat} {v0 : Int32} {a0 : Int32} {a1 : Int32} (hc : c + 0 ≤ 488 + 8 * kk) (hw : w + 0 ≤ 103327 + 64 * kk) : ok d (mLk kk) n0 Q n c w 1017 ls [.int a1, .int a0, .ref b, .int v0] M = (am_ob n b 11 ∧ am_big d mX11_alike [.ref b, .int a0, .int a1] n M (kI fun x M' => ok d (mLk kk) n0 Q n c w 1020 ls (.int x :: .int v0 :: []) M')) := ok_vir (y := (mLk kk)) (y' := mX11_alike) (pc := 1017) (k := 119) (ps := [1731, 1732, 1733, 110, 1734]) (c := c) (w := w) (st := [.int a1, .int a0, .ref b, .int v0]) (as := [.ref b, .int a0, .int a1]) (rest := [.int v0]) (b := b) rfl rfl rfl ⟨Nat.le_of_ble_eq_true rfl, Nat.le_of_ble_eq_true rfl, Nat.le_of_ble_eq_true rfl, hc, hw⟩ rfl rfl (am_contI (Or.inl rfl) rfl)
set_option maxRecDepth 100000 in
theorem sK_1020 {x z : Int32} : ok d (mLk kk) n0 Q n c w 1020 ls (.int z :: .int x :: st) M = ((x = z → ok d (mLk kk) n0 Q n c w 1695 ls st M) ∧ (¬ (x = z) → ok d (mLk kk) n0 Q n c w 1023 ls st M)) := ok_ico (pc := 1020) (off := 675) (k := .eq) rfl 1695 (by decide)
set_option maxRecDepth 100000 in
theorem sK_1023 : ok d (mLk kk) n0 Q n c w 1023 ls st M = ok d (mLk kk) n0 Q n c w 1024 ls (.int 0 :: st) M := ok_r rfl (by rw [← ic_0]; rfl)
set_option maxRecDepth 100000 in
theorem sK_1024 {x : Int32} (ha : am_ret (mLk kk) n0 n c w) : ok d (mLk kk) n0 Q n c w 1024 ls [.int x] M = ((x = 0 ∨ x = 1) ∧ Q (some (.int x)) M) := ok_reZ rfl rfl ha
set_option maxRecDepth 100000 in
theorem sK_1025 {l0 : Option Value} {x : Nat} : ok d (mLk kk) n0 Q n c w 1025 (l0 :: some (.ref x) :: ls) st M = ok d (mLk kk) n0 Q n c w 1026 (l0 :: some (.ref x) :: ls) (.ref x :: st) M := ok_r rfl rfl
set_option maxRecDepth 100000 in
theorem sK_1026 {x : Nat} : ok d (mLk kk) n0 Q n c w 1026 (some (.ref x) :: ls) st M = ok d (mLk kk) n0 Q n c w 1027 (some (.ref x) :: ls) (.ref x :: st) M := ok_r rfl rfl
set_option maxRecDepth 100000 in
theorem sK_1027 {l0 l1 l2 l3 : Option Value} {x : Int32} : ok d (mLk kk) n0 Q n c w 1027 (l0 :: l1 :: l2 :: l3 :: some (.int x) :: ls) st M = ok d (mLk kk) n0 Q n c w 1029 (l0 :: l1 :: l2 :: l3 :: some (.int x) :: ls) (.int x :: st) M := ok_r rfl rfl
set_option maxRecDepth 100000 in
theorem sK_1029 : ok d (mLk kk) n0 Q n c w 1029 ls st M = ok d (mLk kk) n0 Q n c w 1030 ls (.int 1 :: st) M := ok_r rfl (by rw [← ic_1]; rfl)
set_option maxRecDepth 100000 in
theorem sK_1030 {x z : Int32} : ok d (mLk kk) n0 Q n c w 1030 ls (.int z :: .int x :: st) M = ok d (mLk kk) n0 Q n c w 1031 ls (.int (x + z) :: st) M := ok_r rfl rfl
set_option maxRecDepth 100000 in
theorem sK_1031 {a : Nat} {i : Int32} : ok d (mLk kk) n0 Q n c w 1031 ls (.int i :: .ref a :: st) M = (am_in n M a 1 i ∧ ok d (mLk kk) n0 Q n c w 1032 ls (.int (gI M a i.toNatClampNeg) :: st) M) := ok_r rfl rfl
set_option maxRecDepth 100000 in
theorem sK_1032 {x : Nat} : ok d (mLk kk) n0 Q n c w 1032 (some (.ref x) :: ls) st M = ok d (mLk kk) n0 Q n c w 1033 (some (.ref x) :: ls) (.ref x :: st) M := ok_r rfl rfl
set_option maxRecDepth 100000 in
theorem sK_1033 {l0 l1 l2 l3 : Option Value} {x : Int32} : ok d (mLk kk) n0 Q n c w 1033 (l0 :: l1 :: l2 :: l3 :: some (.int x) :: ls) st M = ok d (mLk kk) n0 Q n c w 1035 (l0 :: l1 :: l2 :: l3 :: some (.int x) :: ls) (.int x :: st) M := ok_r rfl rfl
set_option maxRecDepth 100000 in
theorem sK_1035 : ok d (mLk kk) n0 Q n c w 1035 ls st M = ok d (mLk kk) n0 Q n c w 1036 ls (.int 2 :: st) M := ok_r rfl (by rw [← ic_2]; rfl)
set_option maxRecDepth 100000 in
theorem sK_1036 {x z : Int32} : ok d (mLk kk) n0 Q n c w 1036 ls (.int z :: .int x :: st) M = ok d (mLk kk) n0 Q n c w 1037 ls (.int (x + z) :: st) M := ok_r rfl rfl
set_option maxRecDepth 100000 in
theorem sK_1037 {a : Nat} {i : Int32} : ok d (mLk kk) n0 Q n c w 1037 ls (.int i :: .ref a :: st) M = (am_in n M a 1 i ∧ ok d (mLk kk) n0 Q n c w 1038 ls (.int (gI M a i.toNatClampNeg) :: st) M) := ok_r rfl rfl
set_option maxRecDepth 100000 in
theorem sK_1038 {x : Nat} : ok d (mLk kk) n0 Q n c w 1038 (some (.ref x) :: ls) st M = ok d (mLk kk) n0 Q n c w 1039 (some (.ref x) :: ls) (.ref x :: st) M := ok_r rfl rfl
set_option maxRecDepth 100000 in
theorem sK_1039 {l0 l1 l2 l3 : Option Value} {x : Int32} : ok d (mLk kk) n0 Q n c w 1039 (l0 :: l1 :: l2 :: l3 :: some (.int x) :: ls) st M = ok d (mLk kk) n0 Q n c w 1041 (l0 :: l1 :: l2 :: l3 :: some (.int x) :: ls) (.int x :: st) M := ok_r rfl rfl
set_option maxRecDepth 100000 in
theorem sK_1041 : ok d (mLk kk) n0 Q n c w 1041 ls st M = ok d (mLk kk) n0 Q n c w 1042 ls (.int 3 :: st) M := ok_r rfl (by rw [← ic_3]; rfl)
set_option maxRecDepth 100000 in
theorem sK_1042 {x z : Int32} : ok d (mLk kk) n0 Q n c w 1042 ls (.int z :: .int x :: st) M = ok d (mLk kk) n0 Q n c w 1043 ls (.int (x + z) :: st) M := ok_r rfl rfl
set_option maxRecDepth 100000 in
theorem sK_1043 {a : Nat} {i : Int32} : ok d (mLk kk) n0 Q n c w 1043 ls (.int i :: .ref a :: st) M = (am_in n M a 1 i ∧ ok d (mLk kk) n0 Q n c w 1044 ls (.int (gI M a i.toNatClampNeg) :: st) M) := ok_r rfl rfl
set_option maxRecDepth 100000 in
theorem sK_1044 {b : Nat} {a0 : Int32} {a1 : Int32} {a2 : Int32} (hc : c + 0 ≤ 488 + 8 * kk) (hw : w + 0 ≤ 103327 + 64 * kk) : ok d (mLk kk) n0 Q n c w 1044 ls [.int a2, .int a1, .int a0, .ref b] M = (am_ob n b 10 ∧ am_big d mX10_cost [.ref b, .int a0, .int a1, .int a2] n M (kI fun x M' => ok d (mLk kk) n0 Q n c w 1047 ls (.int x :: []) M')) := ok_vir (y := (mLk kk)) (y' := mX10_cost) (pc := 1044) (k := 120) (ps := [833, 834, 835, 99, 836]) (c := c) (w := w) (st := [.int a2, .int a1, .int a0, .ref b]) (as := [.ref b, .int a0, .int a1, .int a2]) (rest := []) (b := b) rfl rfl rfl ⟨Nat.le_of_ble_eq_true rfl, Nat.le_of_ble_eq_true rfl, Nat.le_of_ble_eq_true rfl, hc, hw⟩ rfl rfl (am_contI (Or.inl rfl) rfl)
set_option maxRecDepth 100000 in
theorem sK_1047 {l0 l1 : Option Value} {x : Nat} : ok d (mLk kk) n0 Q n c w 1047 (l0 :: l1 :: some (.ref x) :: ls) st M = ok d (mLk kk) n0 Q n c w 1048 (l0 :: l1 :: some (.ref x) :: ls) (.ref x :: st) M := ok_r rfl rfl
set_option maxRecDepth 100000 in
theorem sK_1048 {x : Nat} : ok d (mLk kk) n0 Q n c w 1048 (some (.ref x) :: ls) st M = ok d (mLk kk) n0 Q n c w 1049 (some (.ref x) :: ls) (.ref x :: st) M := ok_r rfl rfl
set_option maxRecDepth 100000 in
theorem sK_1049 {l0 l1 l2 l3 : Option Value} {x : Int32} : ok d (mLk kk) n0 Q n c w 1049 (l0 :: l1 :: l2 :: l3 :: some (.int x) :: ls) st M = ok d (mLk kk) n0 Q n c w 1051 (l0 :: l1 :: l2 :: l3 :: some (.int x) :: ls) (.int x :: st) M := ok_r rfl rfl
set_option maxRecDepth 100000 in
theorem sK_1051 : ok d (mLk kk) n0 Q n c w 1051 ls st M = ok d (mLk kk) n0 Q n c w 1052 ls (.int 1 :: st) M := ok_r rfl (by rw [← ic_1]; rfl)
set_option maxRecDepth 100000 in
theorem sK_1052 {x z : Int32} : ok d (mLk kk) n0 Q n c w 1052 ls (.int z :: .int x :: st) M = ok d (mLk kk) n0 Q n c w 1053 ls (.int (x + z) :: st) M := ok_r rfl rfl
set_option maxRecDepth 100000 in
theorem sK_1053 {a : Nat} {i : Int32} : ok d (mLk kk) n0 Q n c w 1053 ls (.int i :: .ref a :: st) M = (am_in n M a 1 i ∧ ok d (mLk kk) n0 Q n c w 1054 ls (.int (gI M a i.toNatClampNeg) :: st) M) := ok_r rfl rfl
set_option maxRecDepth 100000 in
theorem sK_1054 {x : Nat} : ok d (mLk kk) n0 Q n c w 1054 (some (.ref x) :: ls) st M = ok d (mLk kk) n0 Q n c w 1055 (some (.ref x) :: ls) (.ref x :: st) M := ok_r rfl rfl
set_option maxRecDepth 100000 in
theorem sK_1055 {l0 l1 l2 l3 : Option Value} {x : Int32} : ok d (mLk kk) n0 Q n c w 1055 (l0 :: l1 :: l2 :: l3 :: some (.int x) :: ls) st M = ok d (mLk kk) n0 Q n c w 1057 (l0 :: l1 :: l2 :: l3 :: some (.int x) :: ls) (.int x :: st) M := ok_r rfl rfl
set_option maxRecDepth 100000 in
theorem sK_1057 : ok d (mLk kk) n0 Q n c w 1057 ls st M = ok d (mLk kk) n0 Q n c w 1058 ls (.int 2 :: st) M := ok_r rfl (by rw [← ic_2]; rfl)
set_option maxRecDepth 100000 in
theorem sK_1058 {x z : Int32} : ok d (mLk kk) n0 Q n c w 1058 ls (.int z :: .int x :: st) M = ok d (mLk kk) n0 Q n c w 1059 ls (.int (x + z) :: st) M := ok_r rfl rfl
set_option maxRecDepth 100000 in
theorem sK_1059 {a : Nat} {i : Int32} : ok d (mLk kk) n0 Q n c w 1059 ls (.int i :: .ref a :: st) M = (am_in n M a 1 i ∧ ok d (mLk kk) n0 Q n c w 1060 ls (.int (gI M a i.toNatClampNeg) :: st) M) := ok_r rfl rfl
set_option maxRecDepth 100000 in
theorem sK_1060 {x : Nat} : ok d (mLk kk) n0 Q n c w 1060 (some (.ref x) :: ls) st M = ok d (mLk kk) n0 Q n c w 1061 (some (.ref x) :: ls) (.ref x :: st) M := ok_r rfl rfl
set_option maxRecDepth 100000 in
theorem sK_1061 {l0 l1 l2 l3 : Option Value} {x : Int32} : ok d (mLk kk) n0 Q n c w 1061 (l0 :: l1 :: l2 :: l3 :: some (.int x) :: ls) st M = ok d (mLk kk) n0 Q n c w 1063 (l0 :: l1 :: l2 :: l3 :: some (.int x) :: ls) (.int x :: st) M := ok_r rfl rfl
set_option maxRecDepth 100000 in
theorem sK_1063 : ok d (mLk kk) n0 Q n c w 1063 ls st M = ok d (mLk kk) n0 Q n c w 1064 ls (.int 3 :: st) M := ok_r rfl (by rw [← ic_3]; rfl)
set_option maxRecDepth 100000 in
theorem sK_1064 {x z : Int32} : ok d (mLk kk) n0 Q n c w 1064 ls (.int z :: .int x :: st) M = ok d (mLk kk) n0 Q n c w 1065 ls (.int (x + z) :: st) M := ok_r rfl rfl
set_option maxRecDepth 100000 in
theorem sK_1065 {a : Nat} {i : Int32} : ok d (mLk kk) n0 Q n c w 1065 ls (.int i :: .ref a :: st) M = (am_in n M a 1 i ∧ ok d (mLk kk) n0 Q n c w 1066 ls (.int (gI M a i.toNatClampNeg) :: st) M) := ok_r rfl rfl
set_option maxRecDepth 100000 in
theorem sK_1066 {b : Nat} {v0 : Int32} {a0 : Int32} {a1 : Int32} {a2 : Int32} (hc : c + 0 ≤ 488 + 8 * kk) (hw : w + 0 ≤ 103327 + 64 * kk) : ok d (mLk kk) n0 Q n c w 1066 ls [.int a2, .int a1, .int a0, .ref b, .int v0] M = (am_ob n b 11 ∧ am_big d mX11_cost [.ref b, .int a0, .int a1, .int a2] n M (kI fun x M' => ok d (mLk kk) n0 Q n c w 1069 ls (.int x :: .int v0 :: []) M')) := ok_vir (y := (mLk kk)) (y' := mX11_cost) (pc := 1066) (k := 123) (ps := [1739, 1740, 1741, 110, 1742]) (c := c) (w := w) (st := [.int a2, .int a1, .int a0, .ref b, .int v0]) (as := [.ref b, .int a0, .int a1, .int a2]) (rest := [.int v0]) (b := b) rfl rfl rfl ⟨Nat.le_of_ble_eq_true rfl, Nat.le_of_ble_eq_true rfl, Nat.le_of_ble_eq_true rfl, hc, hw⟩ rfl rfl (am_contI (Or.inl rfl) rfl)
set_option maxRecDepth 100000 in
theorem sK_1069 {x z : Int32} : ok d (mLk kk) n0 Q n c w 1069 ls (.int z :: .int x :: st) M = ((x = z → ok d (mLk kk) n0 Q n c w 1695 ls st M) ∧ (¬ (x = z) → ok d (mLk kk) n0 Q n c w 1072 ls st M)) := ok_ico (pc := 1069) (off := 626) (k := .eq) rfl 1695 (by decide)
set_option maxRecDepth 100000 in
theorem sK_1072 : ok d (mLk kk) n0 Q n c w 1072 ls st M = ok d (mLk kk) n0 Q n c w 1073 ls (.int 0 :: st) M := ok_r rfl (by rw [← ic_0]; rfl)
set_option maxRecDepth 100000 in
theorem sK_1073 {x : Int32} (ha : am_ret (mLk kk) n0 n c w) : ok d (mLk kk) n0 Q n c w 1073 ls [.int x] M = ((x = 0 ∨ x = 1) ∧ Q (some (.int x)) M) := ok_reZ rfl rfl ha
set_option maxRecDepth 100000 in
theorem sK_1074 {l0 : Option Value} {x : Nat} : ok d (mLk kk) n0 Q n c w 1074 (l0 :: some (.ref x) :: ls) st M = ok d (mLk kk) n0 Q n c w 1075 (l0 :: some (.ref x) :: ls) (.ref x :: st) M := ok_r rfl rfl
set_option maxRecDepth 100000 in
theorem sK_1075 {b : Nat}  (hc : c + 0 ≤ 488 + 8 * kk) (hw : w + 0 ≤ 103327 + 64 * kk) : ok d (mLk kk) n0 Q n c w 1075 ls [.ref b] M = (am_ob n b 10 ∧ am_big d mX10_rows [.ref b] n M (kI fun x M' => ok d (mLk kk) n0 Q n c w 1078 ls (.int x :: []) M')) := ok_vir (y := (mLk kk)) (y' := mX10_rows) (pc := 1075) (k := 124) (ps := [857, 858, 859, 99, 860]) (c := c) (w := w) (st := [.ref b]) (as := [.ref b]) (rest := []) (b := b) rfl rfl rfl ⟨Nat.le_of_ble_eq_true rfl, Nat.le_of_ble_eq_true rfl, Nat.le_of_ble_eq_true rfl, hc, hw⟩ rfl rfl (am_contI (Or.inl rfl) rfl)
set_option maxRecDepth 100000 in
theorem sK_1078 {l0 l1 : Option Value} {x : Nat} : ok d (mLk kk) n0 Q n c w 1078 (l0 :: l1 :: some (.ref x) :: ls) st M = ok d (mLk kk) n0 Q n c w 1079 (l0 :: l1 :: some (.ref x) :: ls) (.ref x :: st) M := ok_r rfl rfl
set_option maxRecDepth 100000 in
theorem sK_1079 {b : Nat} {v0 : Int32} (hc : c + 0 ≤ 488 + 8 * kk) (hw : w + 0 ≤ 103327 + 64 * kk) : ok d (mLk kk) n0 Q n c w 1079 ls [.ref b, .int v0] M = (am_ob n b 11 ∧ am_big d mX11_rows [.ref b] n M (kI fun x M' => ok d (mLk kk) n0 Q n c w 1082 ls (.int x :: .int v0 :: []) M')) := ok_vir (y := (mLk kk)) (y' := mX11_rows) (pc := 1079) (k := 127) (ps := [1759, 1760, 1761, 110, 1762]) (c := c) (w := w) (st := [.ref b, .int v0]) (as := [.ref b]) (rest := [.int v0]) (b := b) rfl rfl rfl ⟨Nat.le_of_ble_eq_true rfl, Nat.le_of_ble_eq_true rfl, Nat.le_of_ble_eq_true rfl, hc, hw⟩ rfl rfl (am_contI (Or.inl rfl) rfl)
set_option maxRecDepth 100000 in
theorem sK_1082 {x z : Int32} : ok d (mLk kk) n0 Q n c w 1082 ls (.int z :: .int x :: st) M = ((x = z → ok d (mLk kk) n0 Q n c w 1695 ls st M) ∧ (¬ (x = z) → ok d (mLk kk) n0 Q n c w 1085 ls st M)) := ok_ico (pc := 1082) (off := 613) (k := .eq) rfl 1695 (by decide)
set_option maxRecDepth 100000 in
theorem sK_1085 : ok d (mLk kk) n0 Q n c w 1085 ls st M = ok d (mLk kk) n0 Q n c w 1086 ls (.int 0 :: st) M := ok_r rfl (by rw [← ic_0]; rfl)
set_option maxRecDepth 100000 in
theorem sK_1086 {x : Int32} (ha : am_ret (mLk kk) n0 n c w) : ok d (mLk kk) n0 Q n c w 1086 ls [.int x] M = ((x = 0 ∨ x = 1) ∧ Q (some (.int x)) M) := ok_reZ rfl rfl ha
set_option maxRecDepth 100000 in
theorem sK_1087 {l0 : Option Value} {x : Nat} : ok d (mLk kk) n0 Q n c w 1087 (l0 :: some (.ref x) :: ls) st M = ok d (mLk kk) n0 Q n c w 1088 (l0 :: some (.ref x) :: ls) (.ref x :: st) M := ok_r rfl rfl
set_option maxRecDepth 100000 in
theorem sK_1088 {x : Nat} : ok d (mLk kk) n0 Q n c w 1088 (some (.ref x) :: ls) st M = ok d (mLk kk) n0 Q n c w 1089 (some (.ref x) :: ls) (.ref x :: st) M := ok_r rfl rfl
set_option maxRecDepth 100000 in
theorem sK_1089 {l0 l1 l2 l3 : Option Value} {x : Int32} : ok d (mLk kk) n0 Q n c w 1089 (l0 :: l1 :: l2 :: l3 :: some (.int x) :: ls) st M = ok d (mLk kk) n0 Q n c w 1091 (l0 :: l1 :: l2 :: l3 :: some (.int x) :: ls) (.int x :: st) M := ok_r rfl rfl
set_option maxRecDepth 100000 in
theorem sK_1091 : ok d (mLk kk) n0 Q n c w 1091 ls st M = ok d (mLk kk) n0 Q n c w 1092 ls (.int 1 :: st) M := ok_r rfl (by rw [← ic_1]; rfl)
set_option maxRecDepth 100000 in
theorem sK_1092 {x z : Int32} : ok d (mLk kk) n0 Q n c w 1092 ls (.int z :: .int x :: st) M = ok d (mLk kk) n0 Q n c w 1093 ls (.int (x + z) :: st) M := ok_r rfl rfl
set_option maxRecDepth 100000 in
theorem sK_1093 {a : Nat} {i : Int32} : ok d (mLk kk) n0 Q n c w 1093 ls (.int i :: .ref a :: st) M = (am_in n M a 1 i ∧ ok d (mLk kk) n0 Q n c w 1094 ls (.int (gI M a i.toNatClampNeg) :: st) M) := ok_r rfl rfl
set_option maxRecDepth 100000 in
theorem sK_1094 {x : Nat} : ok d (mLk kk) n0 Q n c w 1094 (some (.ref x) :: ls) st M = ok d (mLk kk) n0 Q n c w 1095 (some (.ref x) :: ls) (.ref x :: st) M := ok_r rfl rfl
set_option maxRecDepth 100000 in
theorem sK_1095 {l0 l1 l2 l3 : Option Value} {x : Int32} : ok d (mLk kk) n0 Q n c w 1095 (l0 :: l1 :: l2 :: l3 :: some (.int x) :: ls) st M = ok d (mLk kk) n0 Q n c w 1097 (l0 :: l1 :: l2 :: l3 :: some (.int x) :: ls) (.int x :: st) M := ok_r rfl rfl
set_option maxRecDepth 100000 in
theorem sK_1097 : ok d (mLk kk) n0 Q n c w 1097 ls st M = ok d (mLk kk) n0 Q n c w 1098 ls (.int 2 :: st) M := ok_r rfl (by rw [← ic_2]; rfl)
set_option maxRecDepth 100000 in
theorem sK_1098 {x z : Int32} : ok d (mLk kk) n0 Q n c w 1098 ls (.int z :: .int x :: st) M = ok d (mLk kk) n0 Q n c w 1099 ls (.int (x + z) :: st) M := ok_r rfl rfl
set_option maxRecDepth 100000 in
theorem sK_1099 {a : Nat} {i : Int32} : ok d (mLk kk) n0 Q n c w 1099 ls (.int i :: .ref a :: st) M = (am_in n M a 1 i ∧ ok d (mLk kk) n0 Q n c w 1100 ls (.int (gI M a i.toNatClampNeg) :: st) M) := ok_r rfl rfl
set_option maxRecDepth 100000 in
theorem sK_1100 {b : Nat} {a0 : Int32} {a1 : Int32} (hc : c + 0 ≤ 488 + 8 * kk) (hw : w + 0 ≤ 103327 + 64 * kk) : ok d (mLk kk) n0 Q n c w 1100 ls [.int a1, .int a0, .ref b] M = (am_ob n b 10 ∧ am_big d mX10_row [.ref b, .int a0, .int a1] n M (kI fun x M' => ok d (mLk kk) n0 Q n c w 1103 ls (.int x :: []) M')) := ok_vir (y := (mLk kk)) (y' := mX10_row) (pc := 1100) (k := 128) (ps := [887, 888, 889, 99, 890]) (c := c) (w := w) (st := [.int a1, .int a0, .ref b]) (as := [.ref b, .int a0, .int a1]) (rest := []) (b := b) rfl rfl rfl ⟨Nat.le_of_ble_eq_true rfl, Nat.le_of_ble_eq_true rfl, Nat.le_of_ble_eq_true rfl, hc, hw⟩ rfl rfl (am_contI (Or.inl rfl) rfl)
set_option maxRecDepth 100000 in
theorem sK_1103 {l0 l1 : Option Value} {x : Nat} : ok d (mLk kk) n0 Q n c w 1103 (l0 :: l1 :: some (.ref x) :: ls) st M = ok d (mLk kk) n0 Q n c w 1104 (l0 :: l1 :: some (.ref x) :: ls) (.ref x :: st) M := ok_r rfl rfl
set_option maxRecDepth 100000 in
theorem sK_1104 {x : Nat} : ok d (mLk kk) n0 Q n c w 1104 (some (.ref x) :: ls) st M = ok d (mLk kk) n0 Q n c w 1105 (some (.ref x) :: ls) (.ref x :: st) M := ok_r rfl rfl
set_option maxRecDepth 100000 in
theorem sK_1105 {l0 l1 l2 l3 : Option Value} {x : Int32} : ok d (mLk kk) n0 Q n c w 1105 (l0 :: l1 :: l2 :: l3 :: some (.int x) :: ls) st M = ok d (mLk kk) n0 Q n c w 1107 (l0 :: l1 :: l2 :: l3 :: some (.int x) :: ls) (.int x :: st) M := ok_r rfl rfl
set_option maxRecDepth 100000 in
theorem sK_1107 : ok d (mLk kk) n0 Q n c w 1107 ls st M = ok d (mLk kk) n0 Q n c w 1108 ls (.int 1 :: st) M := ok_r rfl (by rw [← ic_1]; rfl)
set_option maxRecDepth 100000 in
theorem sK_1108 {x z : Int32} : ok d (mLk kk) n0 Q n c w 1108 ls (.int z :: .int x :: st) M = ok d (mLk kk) n0 Q n c w 1109 ls (.int (x + z) :: st) M := ok_r rfl rfl
set_option maxRecDepth 100000 in
theorem sK_1109 {a : Nat} {i : Int32} : ok d (mLk kk) n0 Q n c w 1109 ls (.int i :: .ref a :: st) M = (am_in n M a 1 i ∧ ok d (mLk kk) n0 Q n c w 1110 ls (.int (gI M a i.toNatClampNeg) :: st) M) := ok_r rfl rfl
set_option maxRecDepth 100000 in
theorem sK_1110 {x : Nat} : ok d (mLk kk) n0 Q n c w 1110 (some (.ref x) :: ls) st M = ok d (mLk kk) n0 Q n c w 1111 (some (.ref x) :: ls) (.ref x :: st) M := ok_r rfl rfl
set_option maxRecDepth 100000 in
theorem sK_1111 {l0 l1 l2 l3 : Option Value} {x : Int32} : ok d (mLk kk) n0 Q n c w 1111 (l0 :: l1 :: l2 :: l3 :: some (.int x) :: ls) st M = ok d (mLk kk) n0 Q n c w 1113 (l0 :: l1 :: l2 :: l3 :: some (.int x) :: ls) (.int x :: st) M := ok_r rfl rfl
set_option maxRecDepth 100000 in
theorem sK_1113 : ok d (mLk kk) n0 Q n c w 1113 ls st M = ok d (mLk kk) n0 Q n c w 1114 ls (.int 2 :: st) M := ok_r rfl (by rw [← ic_2]; rfl)
set_option maxRecDepth 100000 in
theorem sK_1114 {x z : Int32} : ok d (mLk kk) n0 Q n c w 1114 ls (.int z :: .int x :: st) M = ok d (mLk kk) n0 Q n c w 1115 ls (.int (x + z) :: st) M := ok_r rfl rfl
set_option maxRecDepth 100000 in
theorem sK_1115 {a : Nat} {i : Int32} : ok d (mLk kk) n0 Q n c w 1115 ls (.int i :: .ref a :: st) M = (am_in n M a 1 i ∧ ok d (mLk kk) n0 Q n c w 1116 ls (.int (gI M a i.toNatClampNeg) :: st) M) := ok_r rfl rfl
set_option maxRecDepth 100000 in
theorem sK_1116 {b : Nat} {v0 : Int32} {a0 : Int32} {a1 : Int32} (hc : c + 0 ≤ 488 + 8 * kk) (hw : w + 0 ≤ 103327 + 64 * kk) : ok d (mLk kk) n0 Q n c w 1116 ls [.int a1, .int a0, .ref b, .int v0] M = (am_ob n b 11 ∧ am_big d mX11_row [.ref b, .int a0, .int a1] n M (kI fun x M' => ok d (mLk kk) n0 Q n c w 1119 ls (.int x :: .int v0 :: []) M')) := ok_vir (y := (mLk kk)) (y' := mX11_row) (pc := 1116) (k := 131) (ps := [1775, 1776, 1777, 110, 1778]) (c := c) (w := w) (st := [.int a1, .int a0, .ref b, .int v0]) (as := [.ref b, .int a0, .int a1]) (rest := [.int v0]) (b := b) rfl rfl rfl ⟨Nat.le_of_ble_eq_true rfl, Nat.le_of_ble_eq_true rfl, Nat.le_of_ble_eq_true rfl, hc, hw⟩ rfl rfl (am_contI (Or.inl rfl) rfl)
set_option maxRecDepth 100000 in
theorem sK_1119 {x z : Int32} : ok d (mLk kk) n0 Q n c w 1119 ls (.int z :: .int x :: st) M = ((x = z → ok d (mLk kk) n0 Q n c w 1695 ls st M) ∧ (¬ (x = z) → ok d (mLk kk) n0 Q n c w 1122 ls st M)) := ok_ico (pc := 1119) (off := 576) (k := .eq) rfl 1695 (by decide)
set_option maxRecDepth 100000 in
theorem sK_1122 : ok d (mLk kk) n0 Q n c w 1122 ls st M = ok d (mLk kk) n0 Q n c w 1123 ls (.int 0 :: st) M := ok_r rfl (by rw [← ic_0]; rfl)
set_option maxRecDepth 100000 in
theorem sK_1123 {x : Int32} (ha : am_ret (mLk kk) n0 n c w) : ok d (mLk kk) n0 Q n c w 1123 ls [.int x] M = ((x = 0 ∨ x = 1) ∧ Q (some (.int x)) M) := ok_reZ rfl rfl ha
set_option maxRecDepth 100000 in
theorem sK_1124 {l0 : Option Value} {x : Nat} : ok d (mLk kk) n0 Q n c w 1124 (l0 :: some (.ref x) :: ls) st M = ok d (mLk kk) n0 Q n c w 1125 (l0 :: some (.ref x) :: ls) (.ref x :: st) M := ok_r rfl rfl
set_option maxRecDepth 100000 in
theorem sK_1125 {x : Nat} : ok d (mLk kk) n0 Q n c w 1125 (some (.ref x) :: ls) st M = ok d (mLk kk) n0 Q n c w 1126 (some (.ref x) :: ls) (.ref x :: st) M := ok_r rfl rfl
set_option maxRecDepth 100000 in
theorem sK_1126 {l0 l1 l2 l3 : Option Value} {x : Int32} : ok d (mLk kk) n0 Q n c w 1126 (l0 :: l1 :: l2 :: l3 :: some (.int x) :: ls) st M = ok d (mLk kk) n0 Q n c w 1128 (l0 :: l1 :: l2 :: l3 :: some (.int x) :: ls) (.int x :: st) M := ok_r rfl rfl
set_option maxRecDepth 100000 in
theorem sK_1128 : ok d (mLk kk) n0 Q n c w 1128 ls st M = ok d (mLk kk) n0 Q n c w 1129 ls (.int 1 :: st) M := ok_r rfl (by rw [← ic_1]; rfl)
set_option maxRecDepth 100000 in
theorem sK_1129 {x z : Int32} : ok d (mLk kk) n0 Q n c w 1129 ls (.int z :: .int x :: st) M = ok d (mLk kk) n0 Q n c w 1130 ls (.int (x + z) :: st) M := ok_r rfl rfl
set_option maxRecDepth 100000 in
theorem sK_1130 {a : Nat} {i : Int32} : ok d (mLk kk) n0 Q n c w 1130 ls (.int i :: .ref a :: st) M = (am_in n M a 1 i ∧ ok d (mLk kk) n0 Q n c w 1131 ls (.int (gI M a i.toNatClampNeg) :: st) M) := ok_r rfl rfl
set_option maxRecDepth 100000 in
theorem sK_1131 {x : Int32} : ok d (mLk kk) n0 Q n c w 1131 ls (.int x :: st) M = ok d (mLk kk) n0 Q n c w 1132 ls (.long x.toInt64 :: st) M := ok_r rfl rfl
set_option maxRecDepth 100000 in
theorem sK_1132 : ok d (mLk kk) n0 Q n c w 1132 ls st M = ok d (mLk kk) n0 Q n c w 1134 ls (.int 32 :: st) M := ok_r rfl (by rw [← bc_32]; rfl)
set_option maxRecDepth 100000 in
theorem sK_1134 {x : Int64} {z : Int32} : ok d (mLk kk) n0 Q n c w 1134 ls (.int z :: .long x :: st) M = ok d (mLk kk) n0 Q n c w 1135 ls (.long (x <<< (z.toInt64 &&& 63)) :: st) M := ok_r rfl rfl
set_option maxRecDepth 100000 in
theorem sK_1135 {x : Nat} : ok d (mLk kk) n0 Q n c w 1135 (some (.ref x) :: ls) st M = ok d (mLk kk) n0 Q n c w 1136 (some (.ref x) :: ls) (.ref x :: st) M := ok_r rfl rfl
set_option maxRecDepth 100000 in
theorem sK_1136 {l0 l1 l2 l3 : Option Value} {x : Int32} : ok d (mLk kk) n0 Q n c w 1136 (l0 :: l1 :: l2 :: l3 :: some (.int x) :: ls) st M = ok d (mLk kk) n0 Q n c w 1138 (l0 :: l1 :: l2 :: l3 :: some (.int x) :: ls) (.int x :: st) M := ok_r rfl rfl
set_option maxRecDepth 100000 in
theorem sK_1138 : ok d (mLk kk) n0 Q n c w 1138 ls st M = ok d (mLk kk) n0 Q n c w 1139 ls (.int 2 :: st) M := ok_r rfl (by rw [← ic_2]; rfl)
set_option maxRecDepth 100000 in
theorem sK_1139 {x z : Int32} : ok d (mLk kk) n0 Q n c w 1139 ls (.int z :: .int x :: st) M = ok d (mLk kk) n0 Q n c w 1140 ls (.int (x + z) :: st) M := ok_r rfl rfl
set_option maxRecDepth 100000 in
theorem sK_1140 {a : Nat} {i : Int32} : ok d (mLk kk) n0 Q n c w 1140 ls (.int i :: .ref a :: st) M = (am_in n M a 1 i ∧ ok d (mLk kk) n0 Q n c w 1141 ls (.int (gI M a i.toNatClampNeg) :: st) M) := ok_r rfl rfl
set_option maxRecDepth 100000 in
theorem sK_1141 {x : Int32} : ok d (mLk kk) n0 Q n c w 1141 ls (.int x :: st) M = ok d (mLk kk) n0 Q n c w 1142 ls (.long x.toInt64 :: st) M := ok_r rfl rfl
set_option maxRecDepth 100000 in
theorem sK_1142 : ok d (mLk kk) n0 Q n c w 1142 ls st M = ok d (mLk kk) n0 Q n c w 1145 ls (.long 4294967295 :: st) M := ok_ldcl (v := (4294967295, 1910)) rfl rfl rfl
set_option maxRecDepth 100000 in
theorem sK_1145 {x z : Int64} : ok d (mLk kk) n0 Q n c w 1145 ls (.long z :: .long x :: st) M = ok d (mLk kk) n0 Q n c w 1146 ls (.long (x &&& z) :: st) M := ok_r rfl rfl
set_option maxRecDepth 100000 in
theorem sK_1146 {x z : Int64} : ok d (mLk kk) n0 Q n c w 1146 ls (.long z :: .long x :: st) M = ok d (mLk kk) n0 Q n c w 1147 ls (.long (x ||| z) :: st) M := ok_r rfl rfl
set_option maxRecDepth 100000 in
theorem sK_1147 {x : Nat} : ok d (mLk kk) n0 Q n c w 1147 (some (.ref x) :: ls) st M = ok d (mLk kk) n0 Q n c w 1148 (some (.ref x) :: ls) (.ref x :: st) M := ok_r rfl rfl
set_option maxRecDepth 100000 in
theorem sK_1148 {l0 l1 l2 l3 : Option Value} {x : Int32} : ok d (mLk kk) n0 Q n c w 1148 (l0 :: l1 :: l2 :: l3 :: some (.int x) :: ls) st M = ok d (mLk kk) n0 Q n c w 1150 (l0 :: l1 :: l2 :: l3 :: some (.int x) :: ls) (.int x :: st) M := ok_r rfl rfl
set_option maxRecDepth 100000 in
theorem sK_1150 : ok d (mLk kk) n0 Q n c w 1150 ls st M = ok d (mLk kk) n0 Q n c w 1151 ls (.int 3 :: st) M := ok_r rfl (by rw [← ic_3]; rfl)
set_option maxRecDepth 100000 in
theorem sK_1151 {x z : Int32} : ok d (mLk kk) n0 Q n c w 1151 ls (.int z :: .int x :: st) M = ok d (mLk kk) n0 Q n c w 1152 ls (.int (x + z) :: st) M := ok_r rfl rfl
set_option maxRecDepth 100000 in
theorem sK_1152 {a : Nat} {i : Int32} : ok d (mLk kk) n0 Q n c w 1152 ls (.int i :: .ref a :: st) M = (am_in n M a 1 i ∧ ok d (mLk kk) n0 Q n c w 1153 ls (.int (gI M a i.toNatClampNeg) :: st) M) := ok_r rfl rfl
set_option maxRecDepth 100000 in
theorem sK_1153 {b : Nat} {a0 : Int64} {a1 : Int32} (hc : c + 0 ≤ 488 + 8 * kk) (hw : w + 0 ≤ 103327 + 64 * kk) : ok d (mLk kk) n0 Q n c w 1153 ls [.int a1, .long a0, .ref b] M = (am_ob n b 10 ∧ am_big d mX10_drawn [.ref b, .long a0, .int a1] n M (kI fun x M' => ok d (mLk kk) n0 Q n c w 1156 ls (.int x :: []) M')) := ok_vir (y := (mLk kk)) (y' := mX10_drawn) (pc := 1153) (k := 132) (ps := [895, 896, 897, 99, 898]) (c := c) (w := w) (st := [.int a1, .long a0, .ref b]) (as := [.ref b, .long a0, .int a1]) (rest := []) (b := b) rfl rfl rfl ⟨Nat.le_of_ble_eq_true rfl, Nat.le_of_ble_eq_true rfl, Nat.le_of_ble_eq_true rfl, hc, hw⟩ rfl rfl (am_contI (Or.inl rfl) rfl)
set_option maxRecDepth 100000 in
theorem sK_1156 {l0 l1 : Option Value} {x : Nat} : ok d (mLk kk) n0 Q n c w 1156 (l0 :: l1 :: some (.ref x) :: ls) st M = ok d (mLk kk) n0 Q n c w 1157 (l0 :: l1 :: some (.ref x) :: ls) (.ref x :: st) M := ok_r rfl rfl
set_option maxRecDepth 100000 in
theorem sK_1157 {x : Nat} : ok d (mLk kk) n0 Q n c w 1157 (some (.ref x) :: ls) st M = ok d (mLk kk) n0 Q n c w 1158 (some (.ref x) :: ls) (.ref x :: st) M := ok_r rfl rfl
set_option maxRecDepth 100000 in
theorem sK_1158 {l0 l1 l2 l3 : Option Value} {x : Int32} : ok d (mLk kk) n0 Q n c w 1158 (l0 :: l1 :: l2 :: l3 :: some (.int x) :: ls) st M = ok d (mLk kk) n0 Q n c w 1160 (l0 :: l1 :: l2 :: l3 :: some (.int x) :: ls) (.int x :: st) M := ok_r rfl rfl
set_option maxRecDepth 100000 in
theorem sK_1160 : ok d (mLk kk) n0 Q n c w 1160 ls st M = ok d (mLk kk) n0 Q n c w 1161 ls (.int 1 :: st) M := ok_r rfl (by rw [← ic_1]; rfl)
set_option maxRecDepth 100000 in
theorem sK_1161 {x z : Int32} : ok d (mLk kk) n0 Q n c w 1161 ls (.int z :: .int x :: st) M = ok d (mLk kk) n0 Q n c w 1162 ls (.int (x + z) :: st) M := ok_r rfl rfl
set_option maxRecDepth 100000 in
theorem sK_1162 {a : Nat} {i : Int32} : ok d (mLk kk) n0 Q n c w 1162 ls (.int i :: .ref a :: st) M = (am_in n M a 1 i ∧ ok d (mLk kk) n0 Q n c w 1163 ls (.int (gI M a i.toNatClampNeg) :: st) M) := ok_r rfl rfl
set_option maxRecDepth 100000 in
theorem sK_1163 {x : Int32} : ok d (mLk kk) n0 Q n c w 1163 ls (.int x :: st) M = ok d (mLk kk) n0 Q n c w 1164 ls (.long x.toInt64 :: st) M := ok_r rfl rfl
set_option maxRecDepth 100000 in
theorem sK_1164 : ok d (mLk kk) n0 Q n c w 1164 ls st M = ok d (mLk kk) n0 Q n c w 1166 ls (.int 32 :: st) M := ok_r rfl (by rw [← bc_32]; rfl)
set_option maxRecDepth 100000 in
theorem sK_1166 {x : Int64} {z : Int32} : ok d (mLk kk) n0 Q n c w 1166 ls (.int z :: .long x :: st) M = ok d (mLk kk) n0 Q n c w 1167 ls (.long (x <<< (z.toInt64 &&& 63)) :: st) M := ok_r rfl rfl
set_option maxRecDepth 100000 in
theorem sK_1167 {x : Nat} : ok d (mLk kk) n0 Q n c w 1167 (some (.ref x) :: ls) st M = ok d (mLk kk) n0 Q n c w 1168 (some (.ref x) :: ls) (.ref x :: st) M := ok_r rfl rfl
set_option maxRecDepth 100000 in
theorem sK_1168 {l0 l1 l2 l3 : Option Value} {x : Int32} : ok d (mLk kk) n0 Q n c w 1168 (l0 :: l1 :: l2 :: l3 :: some (.int x) :: ls) st M = ok d (mLk kk) n0 Q n c w 1170 (l0 :: l1 :: l2 :: l3 :: some (.int x) :: ls) (.int x :: st) M := ok_r rfl rfl
set_option maxRecDepth 100000 in
theorem sK_1170 : ok d (mLk kk) n0 Q n c w 1170 ls st M = ok d (mLk kk) n0 Q n c w 1171 ls (.int 2 :: st) M := ok_r rfl (by rw [← ic_2]; rfl)
set_option maxRecDepth 100000 in
theorem sK_1171 {x z : Int32} : ok d (mLk kk) n0 Q n c w 1171 ls (.int z :: .int x :: st) M = ok d (mLk kk) n0 Q n c w 1172 ls (.int (x + z) :: st) M := ok_r rfl rfl
set_option maxRecDepth 100000 in
theorem sK_1172 {a : Nat} {i : Int32} : ok d (mLk kk) n0 Q n c w 1172 ls (.int i :: .ref a :: st) M = (am_in n M a 1 i ∧ ok d (mLk kk) n0 Q n c w 1173 ls (.int (gI M a i.toNatClampNeg) :: st) M) := ok_r rfl rfl
set_option maxRecDepth 100000 in
theorem sK_1173 {x : Int32} : ok d (mLk kk) n0 Q n c w 1173 ls (.int x :: st) M = ok d (mLk kk) n0 Q n c w 1174 ls (.long x.toInt64 :: st) M := ok_r rfl rfl
set_option maxRecDepth 100000 in
theorem sK_1174 : ok d (mLk kk) n0 Q n c w 1174 ls st M = ok d (mLk kk) n0 Q n c w 1177 ls (.long 4294967295 :: st) M := ok_ldcl (v := (4294967295, 1910)) rfl rfl rfl
set_option maxRecDepth 100000 in
theorem sK_1177 {x z : Int64} : ok d (mLk kk) n0 Q n c w 1177 ls (.long z :: .long x :: st) M = ok d (mLk kk) n0 Q n c w 1178 ls (.long (x &&& z) :: st) M := ok_r rfl rfl
set_option maxRecDepth 100000 in
theorem sK_1178 {x z : Int64} : ok d (mLk kk) n0 Q n c w 1178 ls (.long z :: .long x :: st) M = ok d (mLk kk) n0 Q n c w 1179 ls (.long (x ||| z) :: st) M := ok_r rfl rfl
set_option maxRecDepth 100000 in
theorem sK_1179 {x : Nat} : ok d (mLk kk) n0 Q n c w 1179 (some (.ref x) :: ls) st M = ok d (mLk kk) n0 Q n c w 1180 (some (.ref x) :: ls) (.ref x :: st) M := ok_r rfl rfl
set_option maxRecDepth 100000 in
theorem sK_1180 {l0 l1 l2 l3 : Option Value} {x : Int32} : ok d (mLk kk) n0 Q n c w 1180 (l0 :: l1 :: l2 :: l3 :: some (.int x) :: ls) st M = ok d (mLk kk) n0 Q n c w 1182 (l0 :: l1 :: l2 :: l3 :: some (.int x) :: ls) (.int x :: st) M := ok_r rfl rfl
set_option maxRecDepth 100000 in
theorem sK_1182 : ok d (mLk kk) n0 Q n c w 1182 ls st M = ok d (mLk kk) n0 Q n c w 1183 ls (.int 3 :: st) M := ok_r rfl (by rw [← ic_3]; rfl)
set_option maxRecDepth 100000 in
theorem sK_1183 {x z : Int32} : ok d (mLk kk) n0 Q n c w 1183 ls (.int z :: .int x :: st) M = ok d (mLk kk) n0 Q n c w 1184 ls (.int (x + z) :: st) M := ok_r rfl rfl
set_option maxRecDepth 100000 in
theorem sK_1184 {a : Nat} {i : Int32} : ok d (mLk kk) n0 Q n c w 1184 ls (.int i :: .ref a :: st) M = (am_in n M a 1 i ∧ ok d (mLk kk) n0 Q n c w 1185 ls (.int (gI M a i.toNatClampNeg) :: st) M) := ok_r rfl rfl
set_option maxRecDepth 100000 in
theorem sK_1185 {b : Nat} {v0 : Int32} {a0 : Int64} {a1 : Int32} (hc : c + 0 ≤ 488 + 8 * kk) (hw : w + 0 ≤ 103327 + 64 * kk) : ok d (mLk kk) n0 Q n c w 1185 ls [.int a1, .long a0, .ref b, .int v0] M = (am_ob n b 11 ∧ am_big d mX11_drawn [.ref b, .long a0, .int a1] n M (kI fun x M' => ok d (mLk kk) n0 Q n c w 1188 ls (.int x :: .int v0 :: []) M')) := ok_vir (y := (mLk kk)) (y' := mX11_drawn) (pc := 1185) (k := 136) (ps := [1783, 1784, 1785, 110, 1786]) (c := c) (w := w) (st := [.int a1, .long a0, .ref b, .int v0]) (as := [.ref b, .long a0, .int a1]) (rest := [.int v0]) (b := b) rfl rfl rfl ⟨Nat.le_of_ble_eq_true rfl, Nat.le_of_ble_eq_true rfl, Nat.le_of_ble_eq_true rfl, hc, hw⟩ rfl rfl (am_contI (Or.inl rfl) rfl)
set_option maxRecDepth 100000 in
theorem sK_1188 {x z : Int32} : ok d (mLk kk) n0 Q n c w 1188 ls (.int z :: .int x :: st) M = ((x = z → ok d (mLk kk) n0 Q n c w 1695 ls st M) ∧ (¬ (x = z) → ok d (mLk kk) n0 Q n c w 1191 ls st M)) := ok_ico (pc := 1188) (off := 507) (k := .eq) rfl 1695 (by decide)
set_option maxRecDepth 100000 in
theorem sK_1191 : ok d (mLk kk) n0 Q n c w 1191 ls st M = ok d (mLk kk) n0 Q n c w 1192 ls (.int 0 :: st) M := ok_r rfl (by rw [← ic_0]; rfl)
set_option maxRecDepth 100000 in
theorem sK_1192 {x : Int32} (ha : am_ret (mLk kk) n0 n c w) : ok d (mLk kk) n0 Q n c w 1192 ls [.int x] M = ((x = 0 ∨ x = 1) ∧ Q (some (.int x)) M) := ok_reZ rfl rfl ha
set_option maxRecDepth 100000 in
theorem sK_1193 {l0 : Option Value} {x : Nat} : ok d (mLk kk) n0 Q n c w 1193 (l0 :: some (.ref x) :: ls) st M = ok d (mLk kk) n0 Q n c w 1194 (l0 :: some (.ref x) :: ls) (.ref x :: st) M := ok_r rfl rfl
set_option maxRecDepth 100000 in
theorem sK_1194 {x : Nat} : ok d (mLk kk) n0 Q n c w 1194 (some (.ref x) :: ls) st M = ok d (mLk kk) n0 Q n c w 1195 (some (.ref x) :: ls) (.ref x :: st) M := ok_r rfl rfl
set_option maxRecDepth 100000 in
theorem sK_1195 {l0 l1 l2 l3 : Option Value} {x : Int32} : ok d (mLk kk) n0 Q n c w 1195 (l0 :: l1 :: l2 :: l3 :: some (.int x) :: ls) st M = ok d (mLk kk) n0 Q n c w 1197 (l0 :: l1 :: l2 :: l3 :: some (.int x) :: ls) (.int x :: st) M := ok_r rfl rfl
set_option maxRecDepth 100000 in
theorem sK_1197 : ok d (mLk kk) n0 Q n c w 1197 ls st M = ok d (mLk kk) n0 Q n c w 1198 ls (.int 1 :: st) M := ok_r rfl (by rw [← ic_1]; rfl)
set_option maxRecDepth 100000 in
theorem sK_1198 {x z : Int32} : ok d (mLk kk) n0 Q n c w 1198 ls (.int z :: .int x :: st) M = ok d (mLk kk) n0 Q n c w 1199 ls (.int (x + z) :: st) M := ok_r rfl rfl
set_option maxRecDepth 100000 in
theorem sK_1199 {a : Nat} {i : Int32} : ok d (mLk kk) n0 Q n c w 1199 ls (.int i :: .ref a :: st) M = (am_in n M a 1 i ∧ ok d (mLk kk) n0 Q n c w 1200 ls (.int (gI M a i.toNatClampNeg) :: st) M) := ok_r rfl rfl
set_option maxRecDepth 100000 in
theorem sK_1200 {b : Nat} {a0 : Int32} (hc : c + 0 ≤ 488 + 8 * kk) (hw : w + 0 ≤ 103327 + 64 * kk) : ok d (mLk kk) n0 Q n c w 1200 ls [.int a0, .ref b] M = (am_ob n b 10 ∧ am_big d mX10_cheapest [.ref b, .int a0] n M (kI fun x M' => ok d (mLk kk) n0 Q n c w 1203 ls (.int x :: []) M')) := ok_vir (y := (mLk kk)) (y' := mX10_cheapest) (pc := 1200) (k := 137) (ps := [899, 900, 901, 99, 902]) (c := c) (w := w) (st := [.int a0, .ref b]) (as := [.ref b, .int a0]) (rest := []) (b := b) rfl rfl rfl ⟨Nat.le_of_ble_eq_true rfl, Nat.le_of_ble_eq_true rfl, Nat.le_of_ble_eq_true rfl, hc, hw⟩ rfl rfl (am_contI (Or.inl rfl) rfl)
set_option maxRecDepth 100000 in
theorem sK_1203 {l0 l1 : Option Value} {x : Nat} : ok d (mLk kk) n0 Q n c w 1203 (l0 :: l1 :: some (.ref x) :: ls) st M = ok d (mLk kk) n0 Q n c w 1204 (l0 :: l1 :: some (.ref x) :: ls) (.ref x :: st) M := ok_r rfl rfl
set_option maxRecDepth 100000 in
theorem sK_1204 {x : Nat} : ok d (mLk kk) n0 Q n c w 1204 (some (.ref x) :: ls) st M = ok d (mLk kk) n0 Q n c w 1205 (some (.ref x) :: ls) (.ref x :: st) M := ok_r rfl rfl
set_option maxRecDepth 100000 in
theorem sK_1205 {l0 l1 l2 l3 : Option Value} {x : Int32} : ok d (mLk kk) n0 Q n c w 1205 (l0 :: l1 :: l2 :: l3 :: some (.int x) :: ls) st M = ok d (mLk kk) n0 Q n c w 1207 (l0 :: l1 :: l2 :: l3 :: some (.int x) :: ls) (.int x :: st) M := ok_r rfl rfl
set_option maxRecDepth 100000 in
theorem sK_1207 : ok d (mLk kk) n0 Q n c w 1207 ls st M = ok d (mLk kk) n0 Q n c w 1208 ls (.int 1 :: st) M := ok_r rfl (by rw [← ic_1]; rfl)
set_option maxRecDepth 100000 in
theorem sK_1208 {x z : Int32} : ok d (mLk kk) n0 Q n c w 1208 ls (.int z :: .int x :: st) M = ok d (mLk kk) n0 Q n c w 1209 ls (.int (x + z) :: st) M := ok_r rfl rfl
set_option maxRecDepth 100000 in
theorem sK_1209 {a : Nat} {i : Int32} : ok d (mLk kk) n0 Q n c w 1209 ls (.int i :: .ref a :: st) M = (am_in n M a 1 i ∧ ok d (mLk kk) n0 Q n c w 1210 ls (.int (gI M a i.toNatClampNeg) :: st) M) := ok_r rfl rfl
set_option maxRecDepth 100000 in
theorem sK_1210 {b : Nat} {v0 : Int32} {a0 : Int32} (hc : c + 0 ≤ 488 + 8 * kk) (hw : w + 0 ≤ 103327 + 64 * kk) : ok d (mLk kk) n0 Q n c w 1210 ls [.int a0, .ref b, .int v0] M = (am_ob n b 11 ∧ am_big d mX11_cheapest [.ref b, .int a0] n M (kI fun x M' => ok d (mLk kk) n0 Q n c w 1213 ls (.int x :: .int v0 :: []) M')) := ok_vir (y := (mLk kk)) (y' := mX11_cheapest) (pc := 1210) (k := 140) (ps := [1787, 1788, 1789, 110, 1790]) (c := c) (w := w) (st := [.int a0, .ref b, .int v0]) (as := [.ref b, .int a0]) (rest := [.int v0]) (b := b) rfl rfl rfl ⟨Nat.le_of_ble_eq_true rfl, Nat.le_of_ble_eq_true rfl, Nat.le_of_ble_eq_true rfl, hc, hw⟩ rfl rfl (am_contI (Or.inl rfl) rfl)
set_option maxRecDepth 100000 in
theorem sK_1213 {x z : Int32} : ok d (mLk kk) n0 Q n c w 1213 ls (.int z :: .int x :: st) M = ((x = z → ok d (mLk kk) n0 Q n c w 1695 ls st M) ∧ (¬ (x = z) → ok d (mLk kk) n0 Q n c w 1216 ls st M)) := ok_ico (pc := 1213) (off := 482) (k := .eq) rfl 1695 (by decide)
set_option maxRecDepth 100000 in
theorem sK_1216 : ok d (mLk kk) n0 Q n c w 1216 ls st M = ok d (mLk kk) n0 Q n c w 1217 ls (.int 0 :: st) M := ok_r rfl (by rw [← ic_0]; rfl)
set_option maxRecDepth 100000 in
theorem sK_1217 {x : Int32} (ha : am_ret (mLk kk) n0 n c w) : ok d (mLk kk) n0 Q n c w 1217 ls [.int x] M = ((x = 0 ∨ x = 1) ∧ Q (some (.int x)) M) := ok_reZ rfl rfl ha
set_option maxRecDepth 100000 in
theorem sK_1218 {l0 : Option Value} {x : Nat} : ok d (mLk kk) n0 Q n c w 1218 (l0 :: some (.ref x) :: ls) st M = ok d (mLk kk) n0 Q n c w 1219 (l0 :: some (.ref x) :: ls) (.ref x :: st) M := ok_r rfl rfl
set_option maxRecDepth 100000 in
theorem sK_1219 {x : Nat} : ok d (mLk kk) n0 Q n c w 1219 (some (.ref x) :: ls) st M = ok d (mLk kk) n0 Q n c w 1220 (some (.ref x) :: ls) (.ref x :: st) M := ok_r rfl rfl
set_option maxRecDepth 100000 in
theorem sK_1220 {l0 l1 l2 l3 : Option Value} {x : Int32} : ok d (mLk kk) n0 Q n c w 1220 (l0 :: l1 :: l2 :: l3 :: some (.int x) :: ls) st M = ok d (mLk kk) n0 Q n c w 1222 (l0 :: l1 :: l2 :: l3 :: some (.int x) :: ls) (.int x :: st) M := ok_r rfl rfl
set_option maxRecDepth 100000 in
theorem sK_1222 : ok d (mLk kk) n0 Q n c w 1222 ls st M = ok d (mLk kk) n0 Q n c w 1223 ls (.int 1 :: st) M := ok_r rfl (by rw [← ic_1]; rfl)
set_option maxRecDepth 100000 in
theorem sK_1223 {x z : Int32} : ok d (mLk kk) n0 Q n c w 1223 ls (.int z :: .int x :: st) M = ok d (mLk kk) n0 Q n c w 1224 ls (.int (x + z) :: st) M := ok_r rfl rfl
set_option maxRecDepth 100000 in
theorem sK_1224 {a : Nat} {i : Int32} : ok d (mLk kk) n0 Q n c w 1224 ls (.int i :: .ref a :: st) M = (am_in n M a 1 i ∧ ok d (mLk kk) n0 Q n c w 1225 ls (.int (gI M a i.toNatClampNeg) :: st) M) := ok_r rfl rfl
set_option maxRecDepth 100000 in
theorem sK_1225 {x : Nat} : ok d (mLk kk) n0 Q n c w 1225 (some (.ref x) :: ls) st M = ok d (mLk kk) n0 Q n c w 1226 (some (.ref x) :: ls) (.ref x :: st) M := ok_r rfl rfl
set_option maxRecDepth 100000 in
theorem sK_1226 {l0 l1 l2 l3 : Option Value} {x : Int32} : ok d (mLk kk) n0 Q n c w 1226 (l0 :: l1 :: l2 :: l3 :: some (.int x) :: ls) st M = ok d (mLk kk) n0 Q n c w 1228 (l0 :: l1 :: l2 :: l3 :: some (.int x) :: ls) (.int x :: st) M := ok_r rfl rfl
set_option maxRecDepth 100000 in
theorem sK_1228 : ok d (mLk kk) n0 Q n c w 1228 ls st M = ok d (mLk kk) n0 Q n c w 1229 ls (.int 2 :: st) M := ok_r rfl (by rw [← ic_2]; rfl)
set_option maxRecDepth 100000 in
theorem sK_1229 {x z : Int32} : ok d (mLk kk) n0 Q n c w 1229 ls (.int z :: .int x :: st) M = ok d (mLk kk) n0 Q n c w 1230 ls (.int (x + z) :: st) M := ok_r rfl rfl
set_option maxRecDepth 100000 in
theorem sK_1230 {a : Nat} {i : Int32} : ok d (mLk kk) n0 Q n c w 1230 ls (.int i :: .ref a :: st) M = (am_in n M a 1 i ∧ ok d (mLk kk) n0 Q n c w 1231 ls (.int (gI M a i.toNatClampNeg) :: st) M) := ok_r rfl rfl
set_option maxRecDepth 100000 in
theorem sK_1231 {b : Nat} {a0 : Int32} {a1 : Int32} (hc : c + 0 ≤ 488 + 8 * kk) (hw : w + 0 ≤ 103327 + 64 * kk) : ok d (mLk kk) n0 Q n c w 1231 ls [.int a1, .int a0, .ref b] M = (am_ob n b 10 ∧ am_big d mX10_places [.ref b, .int a0, .int a1] n M (kI fun x M' => ok d (mLk kk) n0 Q n c w 1234 ls (.int x :: []) M')) := ok_vir (y := (mLk kk)) (y' := mX10_places) (pc := 1231) (k := 141) (ps := [950, 951, 952, 99, 953]) (c := c) (w := w) (st := [.int a1, .int a0, .ref b]) (as := [.ref b, .int a0, .int a1]) (rest := []) (b := b) rfl rfl rfl ⟨Nat.le_of_ble_eq_true rfl, Nat.le_of_ble_eq_true rfl, Nat.le_of_ble_eq_true rfl, hc, hw⟩ rfl rfl (am_contI (Or.inl rfl) rfl)
set_option maxRecDepth 100000 in
theorem sK_1234 {l0 l1 : Option Value} {x : Nat} : ok d (mLk kk) n0 Q n c w 1234 (l0 :: l1 :: some (.ref x) :: ls) st M = ok d (mLk kk) n0 Q n c w 1235 (l0 :: l1 :: some (.ref x) :: ls) (.ref x :: st) M := ok_r rfl rfl
set_option maxRecDepth 100000 in
theorem sK_1235 {x : Nat} : ok d (mLk kk) n0 Q n c w 1235 (some (.ref x) :: ls) st M = ok d (mLk kk) n0 Q n c w 1236 (some (.ref x) :: ls) (.ref x :: st) M := ok_r rfl rfl
set_option maxRecDepth 100000 in
theorem sK_1236 {l0 l1 l2 l3 : Option Value} {x : Int32} : ok d (mLk kk) n0 Q n c w 1236 (l0 :: l1 :: l2 :: l3 :: some (.int x) :: ls) st M = ok d (mLk kk) n0 Q n c w 1238 (l0 :: l1 :: l2 :: l3 :: some (.int x) :: ls) (.int x :: st) M := ok_r rfl rfl
set_option maxRecDepth 100000 in
theorem sK_1238 : ok d (mLk kk) n0 Q n c w 1238 ls st M = ok d (mLk kk) n0 Q n c w 1239 ls (.int 1 :: st) M := ok_r rfl (by rw [← ic_1]; rfl)
set_option maxRecDepth 100000 in
theorem sK_1239 {x z : Int32} : ok d (mLk kk) n0 Q n c w 1239 ls (.int z :: .int x :: st) M = ok d (mLk kk) n0 Q n c w 1240 ls (.int (x + z) :: st) M := ok_r rfl rfl
set_option maxRecDepth 100000 in
theorem sK_1240 {a : Nat} {i : Int32} : ok d (mLk kk) n0 Q n c w 1240 ls (.int i :: .ref a :: st) M = (am_in n M a 1 i ∧ ok d (mLk kk) n0 Q n c w 1241 ls (.int (gI M a i.toNatClampNeg) :: st) M) := ok_r rfl rfl
set_option maxRecDepth 100000 in
theorem sK_1241 {x : Nat} : ok d (mLk kk) n0 Q n c w 1241 (some (.ref x) :: ls) st M = ok d (mLk kk) n0 Q n c w 1242 (some (.ref x) :: ls) (.ref x :: st) M := ok_r rfl rfl
set_option maxRecDepth 100000 in
theorem sK_1242 {l0 l1 l2 l3 : Option Value} {x : Int32} : ok d (mLk kk) n0 Q n c w 1242 (l0 :: l1 :: l2 :: l3 :: some (.int x) :: ls) st M = ok d (mLk kk) n0 Q n c w 1244 (l0 :: l1 :: l2 :: l3 :: some (.int x) :: ls) (.int x :: st) M := ok_r rfl rfl
set_option maxRecDepth 100000 in
theorem sK_1244 : ok d (mLk kk) n0 Q n c w 1244 ls st M = ok d (mLk kk) n0 Q n c w 1245 ls (.int 2 :: st) M := ok_r rfl (by rw [← ic_2]; rfl)
set_option maxRecDepth 100000 in
theorem sK_1245 {x z : Int32} : ok d (mLk kk) n0 Q n c w 1245 ls (.int z :: .int x :: st) M = ok d (mLk kk) n0 Q n c w 1246 ls (.int (x + z) :: st) M := ok_r rfl rfl
set_option maxRecDepth 100000 in
theorem sK_1246 {a : Nat} {i : Int32} : ok d (mLk kk) n0 Q n c w 1246 ls (.int i :: .ref a :: st) M = (am_in n M a 1 i ∧ ok d (mLk kk) n0 Q n c w 1247 ls (.int (gI M a i.toNatClampNeg) :: st) M) := ok_r rfl rfl
set_option maxRecDepth 100000 in
theorem sK_1247 {b : Nat} {v0 : Int32} {a0 : Int32} {a1 : Int32} (hc : c + 0 ≤ 488 + 8 * kk) (hw : w + 0 ≤ 103327 + 64 * kk) : ok d (mLk kk) n0 Q n c w 1247 ls [.int a1, .int a0, .ref b, .int v0] M = (am_ob n b 11 ∧ am_big d mX11_places [.ref b, .int a0, .int a1] n M (kI fun x M' => ok d (mLk kk) n0 Q n c w 1250 ls (.int x :: .int v0 :: []) M')) := ok_vir (y := (mLk kk)) (y' := mX11_places) (pc := 1247) (k := 144) (ps := [1798, 1799, 1800, 110, 1801]) (c := c) (w := w) (st := [.int a1, .int a0, .ref b, .int v0]) (as := [.ref b, .int a0, .int a1]) (rest := [.int v0]) (b := b) rfl rfl rfl ⟨Nat.le_of_ble_eq_true rfl, Nat.le_of_ble_eq_true rfl, Nat.le_of_ble_eq_true rfl, hc, hw⟩ rfl rfl (am_contI (Or.inl rfl) rfl)
set_option maxRecDepth 100000 in
theorem sK_1250 {x z : Int32} : ok d (mLk kk) n0 Q n c w 1250 ls (.int z :: .int x :: st) M = ((x = z → ok d (mLk kk) n0 Q n c w 1695 ls st M) ∧ (¬ (x = z) → ok d (mLk kk) n0 Q n c w 1253 ls st M)) := ok_ico (pc := 1250) (off := 445) (k := .eq) rfl 1695 (by decide)
set_option maxRecDepth 100000 in
theorem sK_1253 : ok d (mLk kk) n0 Q n c w 1253 ls st M = ok d (mLk kk) n0 Q n c w 1254 ls (.int 0 :: st) M := ok_r rfl (by rw [← ic_0]; rfl)
set_option maxRecDepth 100000 in
theorem sK_1254 {x : Int32} (ha : am_ret (mLk kk) n0 n c w) : ok d (mLk kk) n0 Q n c w 1254 ls [.int x] M = ((x = 0 ∨ x = 1) ∧ Q (some (.int x)) M) := ok_reZ rfl rfl ha
set_option maxRecDepth 100000 in
theorem sK_1255 {l0 : Option Value} {x : Nat} : ok d (mLk kk) n0 Q n c w 1255 (l0 :: some (.ref x) :: ls) st M = ok d (mLk kk) n0 Q n c w 1256 (l0 :: some (.ref x) :: ls) (.ref x :: st) M := ok_r rfl rfl
set_option maxRecDepth 100000 in
theorem sK_1256 {x : Nat} : ok d (mLk kk) n0 Q n c w 1256 (some (.ref x) :: ls) st M = ok d (mLk kk) n0 Q n c w 1257 (some (.ref x) :: ls) (.ref x :: st) M := ok_r rfl rfl
set_option maxRecDepth 100000 in
theorem sK_1257 {l0 l1 l2 l3 : Option Value} {x : Int32} : ok d (mLk kk) n0 Q n c w 1257 (l0 :: l1 :: l2 :: l3 :: some (.int x) :: ls) st M = ok d (mLk kk) n0 Q n c w 1259 (l0 :: l1 :: l2 :: l3 :: some (.int x) :: ls) (.int x :: st) M := ok_r rfl rfl
set_option maxRecDepth 100000 in
theorem sK_1259 : ok d (mLk kk) n0 Q n c w 1259 ls st M = ok d (mLk kk) n0 Q n c w 1260 ls (.int 1 :: st) M := ok_r rfl (by rw [← ic_1]; rfl)
set_option maxRecDepth 100000 in
theorem sK_1260 {x z : Int32} : ok d (mLk kk) n0 Q n c w 1260 ls (.int z :: .int x :: st) M = ok d (mLk kk) n0 Q n c w 1261 ls (.int (x + z) :: st) M := ok_r rfl rfl
set_option maxRecDepth 100000 in
theorem sK_1261 {a : Nat} {i : Int32} : ok d (mLk kk) n0 Q n c w 1261 ls (.int i :: .ref a :: st) M = (am_in n M a 1 i ∧ ok d (mLk kk) n0 Q n c w 1262 ls (.int (gI M a i.toNatClampNeg) :: st) M) := ok_r rfl rfl
set_option maxRecDepth 100000 in
theorem sK_1262 {x : Nat} : ok d (mLk kk) n0 Q n c w 1262 (some (.ref x) :: ls) st M = ok d (mLk kk) n0 Q n c w 1263 (some (.ref x) :: ls) (.ref x :: st) M := ok_r rfl rfl
set_option maxRecDepth 100000 in
theorem sK_1263 {l0 l1 l2 l3 : Option Value} {x : Int32} : ok d (mLk kk) n0 Q n c w 1263 (l0 :: l1 :: l2 :: l3 :: some (.int x) :: ls) st M = ok d (mLk kk) n0 Q n c w 1265 (l0 :: l1 :: l2 :: l3 :: some (.int x) :: ls) (.int x :: st) M := ok_r rfl rfl
set_option maxRecDepth 100000 in
theorem sK_1265 : ok d (mLk kk) n0 Q n c w 1265 ls st M = ok d (mLk kk) n0 Q n c w 1266 ls (.int 2 :: st) M := ok_r rfl (by rw [← ic_2]; rfl)
set_option maxRecDepth 100000 in
theorem sK_1266 {x z : Int32} : ok d (mLk kk) n0 Q n c w 1266 ls (.int z :: .int x :: st) M = ok d (mLk kk) n0 Q n c w 1267 ls (.int (x + z) :: st) M := ok_r rfl rfl
set_option maxRecDepth 100000 in
theorem sK_1267 {a : Nat} {i : Int32} : ok d (mLk kk) n0 Q n c w 1267 ls (.int i :: .ref a :: st) M = (am_in n M a 1 i ∧ ok d (mLk kk) n0 Q n c w 1268 ls (.int (gI M a i.toNatClampNeg) :: st) M) := ok_r rfl rfl
set_option maxRecDepth 100000 in
theorem sK_1268 {b : Nat} {a0 : Int32} {a1 : Int32} (hc : c + 0 ≤ 488 + 8 * kk) (hw : w + 0 ≤ 103327 + 64 * kk) : ok d (mLk kk) n0 Q n c w 1268 ls [.int a1, .int a0, .ref b] M = (am_ob n b 10 ∧ am_big d mX10_needs [.ref b, .int a0, .int a1] n M (kI fun x M' => ok d (mLk kk) n0 Q n c w 1271 ls (.int x :: []) M')) := ok_vir (y := (mLk kk)) (y' := mX10_needs) (pc := 1268) (k := 145) (ps := [956, 957, 958, 99, 959]) (c := c) (w := w) (st := [.int a1, .int a0, .ref b]) (as := [.ref b, .int a0, .int a1]) (rest := []) (b := b) rfl rfl rfl ⟨Nat.le_of_ble_eq_true rfl, Nat.le_of_ble_eq_true rfl, Nat.le_of_ble_eq_true rfl, hc, hw⟩ rfl rfl (am_contI (Or.inl rfl) rfl)
set_option maxRecDepth 100000 in
theorem sK_1271 {l0 l1 : Option Value} {x : Nat} : ok d (mLk kk) n0 Q n c w 1271 (l0 :: l1 :: some (.ref x) :: ls) st M = ok d (mLk kk) n0 Q n c w 1272 (l0 :: l1 :: some (.ref x) :: ls) (.ref x :: st) M := ok_r rfl rfl
set_option maxRecDepth 100000 in
theorem sK_1272 {x : Nat} : ok d (mLk kk) n0 Q n c w 1272 (some (.ref x) :: ls) st M = ok d (mLk kk) n0 Q n c w 1273 (some (.ref x) :: ls) (.ref x :: st) M := ok_r rfl rfl
set_option maxRecDepth 100000 in
theorem sK_1273 {l0 l1 l2 l3 : Option Value} {x : Int32} : ok d (mLk kk) n0 Q n c w 1273 (l0 :: l1 :: l2 :: l3 :: some (.int x) :: ls) st M = ok d (mLk kk) n0 Q n c w 1275 (l0 :: l1 :: l2 :: l3 :: some (.int x) :: ls) (.int x :: st) M := ok_r rfl rfl
set_option maxRecDepth 100000 in
theorem sK_1275 : ok d (mLk kk) n0 Q n c w 1275 ls st M = ok d (mLk kk) n0 Q n c w 1276 ls (.int 1 :: st) M := ok_r rfl (by rw [← ic_1]; rfl)
set_option maxRecDepth 100000 in
theorem sK_1276 {x z : Int32} : ok d (mLk kk) n0 Q n c w 1276 ls (.int z :: .int x :: st) M = ok d (mLk kk) n0 Q n c w 1277 ls (.int (x + z) :: st) M := ok_r rfl rfl
set_option maxRecDepth 100000 in
theorem sK_1277 {a : Nat} {i : Int32} : ok d (mLk kk) n0 Q n c w 1277 ls (.int i :: .ref a :: st) M = (am_in n M a 1 i ∧ ok d (mLk kk) n0 Q n c w 1278 ls (.int (gI M a i.toNatClampNeg) :: st) M) := ok_r rfl rfl
set_option maxRecDepth 100000 in
theorem sK_1278 {x : Nat} : ok d (mLk kk) n0 Q n c w 1278 (some (.ref x) :: ls) st M = ok d (mLk kk) n0 Q n c w 1279 (some (.ref x) :: ls) (.ref x :: st) M := ok_r rfl rfl
set_option maxRecDepth 100000 in
theorem sK_1279 {l0 l1 l2 l3 : Option Value} {x : Int32} : ok d (mLk kk) n0 Q n c w 1279 (l0 :: l1 :: l2 :: l3 :: some (.int x) :: ls) st M = ok d (mLk kk) n0 Q n c w 1281 (l0 :: l1 :: l2 :: l3 :: some (.int x) :: ls) (.int x :: st) M := ok_r rfl rfl
set_option maxRecDepth 100000 in
theorem sK_1281 : ok d (mLk kk) n0 Q n c w 1281 ls st M = ok d (mLk kk) n0 Q n c w 1282 ls (.int 2 :: st) M := ok_r rfl (by rw [← ic_2]; rfl)
set_option maxRecDepth 100000 in
theorem sK_1282 {x z : Int32} : ok d (mLk kk) n0 Q n c w 1282 ls (.int z :: .int x :: st) M = ok d (mLk kk) n0 Q n c w 1283 ls (.int (x + z) :: st) M := ok_r rfl rfl
set_option maxRecDepth 100000 in
theorem sK_1283 {a : Nat} {i : Int32} : ok d (mLk kk) n0 Q n c w 1283 ls (.int i :: .ref a :: st) M = (am_in n M a 1 i ∧ ok d (mLk kk) n0 Q n c w 1284 ls (.int (gI M a i.toNatClampNeg) :: st) M) := ok_r rfl rfl
set_option maxRecDepth 100000 in
theorem sK_1284 {b : Nat} {v0 : Int32} {a0 : Int32} {a1 : Int32} (hc : c + 0 ≤ 488 + 8 * kk) (hw : w + 0 ≤ 103327 + 64 * kk) : ok d (mLk kk) n0 Q n c w 1284 ls [.int a1, .int a0, .ref b, .int v0] M = (am_ob n b 11 ∧ am_big d mX11_needs [.ref b, .int a0, .int a1] n M (kI fun x M' => ok d (mLk kk) n0 Q n c w 1287 ls (.int x :: .int v0 :: []) M')) := ok_vir (y := (mLk kk)) (y' := mX11_needs) (pc := 1284) (k := 148) (ps := [1802, 1803, 1804, 110, 1805]) (c := c) (w := w) (st := [.int a1, .int a0, .ref b, .int v0]) (as := [.ref b, .int a0, .int a1]) (rest := [.int v0]) (b := b) rfl rfl rfl ⟨Nat.le_of_ble_eq_true rfl, Nat.le_of_ble_eq_true rfl, Nat.le_of_ble_eq_true rfl, hc, hw⟩ rfl rfl (am_contI (Or.inl rfl) rfl)
set_option maxRecDepth 100000 in
theorem sK_1287 {x z : Int32} : ok d (mLk kk) n0 Q n c w 1287 ls (.int z :: .int x :: st) M = ((x = z → ok d (mLk kk) n0 Q n c w 1695 ls st M) ∧ (¬ (x = z) → ok d (mLk kk) n0 Q n c w 1290 ls st M)) := ok_ico (pc := 1287) (off := 408) (k := .eq) rfl 1695 (by decide)
set_option maxRecDepth 100000 in
theorem sK_1290 : ok d (mLk kk) n0 Q n c w 1290 ls st M = ok d (mLk kk) n0 Q n c w 1291 ls (.int 0 :: st) M := ok_r rfl (by rw [← ic_0]; rfl)
set_option maxRecDepth 100000 in
theorem sK_1291 {x : Int32} (ha : am_ret (mLk kk) n0 n c w) : ok d (mLk kk) n0 Q n c w 1291 ls [.int x] M = ((x = 0 ∨ x = 1) ∧ Q (some (.int x)) M) := ok_reZ rfl rfl ha
set_option maxRecDepth 100000 in
theorem sK_1292 {l0 : Option Value} {x : Nat} : ok d (mLk kk) n0 Q n c w 1292 (l0 :: some (.ref x) :: ls) st M = ok d (mLk kk) n0 Q n c w 1293 (l0 :: some (.ref x) :: ls) (.ref x :: st) M := ok_r rfl rfl
set_option maxRecDepth 100000 in
theorem sK_1293 {x : Nat} : ok d (mLk kk) n0 Q n c w 1293 (some (.ref x) :: ls) st M = ok d (mLk kk) n0 Q n c w 1294 (some (.ref x) :: ls) (.ref x :: st) M := ok_r rfl rfl
set_option maxRecDepth 100000 in
theorem sK_1294 {l0 l1 l2 l3 : Option Value} {x : Int32} : ok d (mLk kk) n0 Q n c w 1294 (l0 :: l1 :: l2 :: l3 :: some (.int x) :: ls) st M = ok d (mLk kk) n0 Q n c w 1296 (l0 :: l1 :: l2 :: l3 :: some (.int x) :: ls) (.int x :: st) M := ok_r rfl rfl
set_option maxRecDepth 100000 in
theorem sK_1296 : ok d (mLk kk) n0 Q n c w 1296 ls st M = ok d (mLk kk) n0 Q n c w 1297 ls (.int 1 :: st) M := ok_r rfl (by rw [← ic_1]; rfl)
set_option maxRecDepth 100000 in
theorem sK_1297 {x z : Int32} : ok d (mLk kk) n0 Q n c w 1297 ls (.int z :: .int x :: st) M = ok d (mLk kk) n0 Q n c w 1298 ls (.int (x + z) :: st) M := ok_r rfl rfl
set_option maxRecDepth 100000 in
theorem sK_1298 {a : Nat} {i : Int32} : ok d (mLk kk) n0 Q n c w 1298 ls (.int i :: .ref a :: st) M = (am_in n M a 1 i ∧ ok d (mLk kk) n0 Q n c w 1299 ls (.int (gI M a i.toNatClampNeg) :: st) M) := ok_r rfl rfl
set_option maxRecDepth 100000 in
theorem sK_1299 {x : Nat} : ok d (mLk kk) n0 Q n c w 1299 (some (.ref x) :: ls) st M = ok d (mLk kk) n0 Q n c w 1300 (some (.ref x) :: ls) (.ref x :: st) M := ok_r rfl rfl
set_option maxRecDepth 100000 in
theorem sK_1300 {l0 l1 l2 l3 : Option Value} {x : Int32} : ok d (mLk kk) n0 Q n c w 1300 (l0 :: l1 :: l2 :: l3 :: some (.int x) :: ls) st M = ok d (mLk kk) n0 Q n c w 1302 (l0 :: l1 :: l2 :: l3 :: some (.int x) :: ls) (.int x :: st) M := ok_r rfl rfl
set_option maxRecDepth 100000 in
theorem sK_1302 : ok d (mLk kk) n0 Q n c w 1302 ls st M = ok d (mLk kk) n0 Q n c w 1303 ls (.int 2 :: st) M := ok_r rfl (by rw [← ic_2]; rfl)
set_option maxRecDepth 100000 in
theorem sK_1303 {x z : Int32} : ok d (mLk kk) n0 Q n c w 1303 ls (.int z :: .int x :: st) M = ok d (mLk kk) n0 Q n c w 1304 ls (.int (x + z) :: st) M := ok_r rfl rfl
set_option maxRecDepth 100000 in
theorem sK_1304 {a : Nat} {i : Int32} : ok d (mLk kk) n0 Q n c w 1304 ls (.int i :: .ref a :: st) M = (am_in n M a 1 i ∧ ok d (mLk kk) n0 Q n c w 1305 ls (.int (gI M a i.toNatClampNeg) :: st) M) := ok_r rfl rfl
set_option maxRecDepth 100000 in
theorem sK_1305 {b : Nat} {a0 : Int32} {a1 : Int32} (hc : c + 0 ≤ 488 + 8 * kk) (hw : w + 0 ≤ 103327 + 64 * kk) : ok d (mLk kk) n0 Q n c w 1305 ls [.int a1, .int a0, .ref b] M = (am_ob n b 10 ∧ am_big d mX10_sure [.ref b, .int a0, .int a1] n M (kI fun x M' => ok d (mLk kk) n0 Q n c w 1308 ls (.int x :: []) M')) := ok_vir (y := (mLk kk)) (y' := mX10_sure) (pc := 1305) (k := 149) (ps := [960, 961, 962, 99, 963]) (c := c) (w := w) (st := [.int a1, .int a0, .ref b]) (as := [.ref b, .int a0, .int a1]) (rest := []) (b := b) rfl rfl rfl ⟨Nat.le_of_ble_eq_true rfl, Nat.le_of_ble_eq_true rfl, Nat.le_of_ble_eq_true rfl, hc, hw⟩ rfl rfl (am_contI (Or.inl rfl) rfl)
set_option maxRecDepth 100000 in
theorem sK_1308 {l0 l1 : Option Value} {x : Nat} : ok d (mLk kk) n0 Q n c w 1308 (l0 :: l1 :: some (.ref x) :: ls) st M = ok d (mLk kk) n0 Q n c w 1309 (l0 :: l1 :: some (.ref x) :: ls) (.ref x :: st) M := ok_r rfl rfl
set_option maxRecDepth 100000 in
theorem sK_1309 {x : Nat} : ok d (mLk kk) n0 Q n c w 1309 (some (.ref x) :: ls) st M = ok d (mLk kk) n0 Q n c w 1310 (some (.ref x) :: ls) (.ref x :: st) M := ok_r rfl rfl
set_option maxRecDepth 100000 in
theorem sK_1310 {l0 l1 l2 l3 : Option Value} {x : Int32} : ok d (mLk kk) n0 Q n c w 1310 (l0 :: l1 :: l2 :: l3 :: some (.int x) :: ls) st M = ok d (mLk kk) n0 Q n c w 1312 (l0 :: l1 :: l2 :: l3 :: some (.int x) :: ls) (.int x :: st) M := ok_r rfl rfl
set_option maxRecDepth 100000 in
theorem sK_1312 : ok d (mLk kk) n0 Q n c w 1312 ls st M = ok d (mLk kk) n0 Q n c w 1313 ls (.int 1 :: st) M := ok_r rfl (by rw [← ic_1]; rfl)
set_option maxRecDepth 100000 in
theorem sK_1313 {x z : Int32} : ok d (mLk kk) n0 Q n c w 1313 ls (.int z :: .int x :: st) M = ok d (mLk kk) n0 Q n c w 1314 ls (.int (x + z) :: st) M := ok_r rfl rfl
set_option maxRecDepth 100000 in
theorem sK_1314 {a : Nat} {i : Int32} : ok d (mLk kk) n0 Q n c w 1314 ls (.int i :: .ref a :: st) M = (am_in n M a 1 i ∧ ok d (mLk kk) n0 Q n c w 1315 ls (.int (gI M a i.toNatClampNeg) :: st) M) := ok_r rfl rfl
set_option maxRecDepth 100000 in
theorem sK_1315 {x : Nat} : ok d (mLk kk) n0 Q n c w 1315 (some (.ref x) :: ls) st M = ok d (mLk kk) n0 Q n c w 1316 (some (.ref x) :: ls) (.ref x :: st) M := ok_r rfl rfl
set_option maxRecDepth 100000 in
theorem sK_1316 {l0 l1 l2 l3 : Option Value} {x : Int32} : ok d (mLk kk) n0 Q n c w 1316 (l0 :: l1 :: l2 :: l3 :: some (.int x) :: ls) st M = ok d (mLk kk) n0 Q n c w 1318 (l0 :: l1 :: l2 :: l3 :: some (.int x) :: ls) (.int x :: st) M := ok_r rfl rfl
set_option maxRecDepth 100000 in
theorem sK_1318 : ok d (mLk kk) n0 Q n c w 1318 ls st M = ok d (mLk kk) n0 Q n c w 1319 ls (.int 2 :: st) M := ok_r rfl (by rw [← ic_2]; rfl)
set_option maxRecDepth 100000 in
theorem sK_1319 {x z : Int32} : ok d (mLk kk) n0 Q n c w 1319 ls (.int z :: .int x :: st) M = ok d (mLk kk) n0 Q n c w 1320 ls (.int (x + z) :: st) M := ok_r rfl rfl
set_option maxRecDepth 100000 in
theorem sK_1320 {a : Nat} {i : Int32} : ok d (mLk kk) n0 Q n c w 1320 ls (.int i :: .ref a :: st) M = (am_in n M a 1 i ∧ ok d (mLk kk) n0 Q n c w 1321 ls (.int (gI M a i.toNatClampNeg) :: st) M) := ok_r rfl rfl
set_option maxRecDepth 100000 in
theorem sK_1321 {b : Nat} {v0 : Int32} {a0 : Int32} {a1 : Int32} (hc : c + 0 ≤ 488 + 8 * kk) (hw : w + 0 ≤ 103327 + 64 * kk) : ok d (mLk kk) n0 Q n c w 1321 ls [.int a1, .int a0, .ref b, .int v0] M = (am_ob n b 11 ∧ am_big d mX11_sure [.ref b, .int a0, .int a1] n M (kI fun x M' => ok d (mLk kk) n0 Q n c w 1324 ls (.int x :: .int v0 :: []) M')) := ok_vir (y := (mLk kk)) (y' := mX11_sure) (pc := 1321) (k := 152) (ps := [1806, 1807, 1808, 110, 1809]) (c := c) (w := w) (st := [.int a1, .int a0, .ref b, .int v0]) (as := [.ref b, .int a0, .int a1]) (rest := [.int v0]) (b := b) rfl rfl rfl ⟨Nat.le_of_ble_eq_true rfl, Nat.le_of_ble_eq_true rfl, Nat.le_of_ble_eq_true rfl, hc, hw⟩ rfl rfl (am_contI (Or.inl rfl) rfl)
set_option maxRecDepth 100000 in
theorem sK_1324 {x z : Int32} : ok d (mLk kk) n0 Q n c w 1324 ls (.int z :: .int x :: st) M = ((x = z → ok d (mLk kk) n0 Q n c w 1695 ls st M) ∧ (¬ (x = z) → ok d (mLk kk) n0 Q n c w 1327 ls st M)) := ok_ico (pc := 1324) (off := 371) (k := .eq) rfl 1695 (by decide)
set_option maxRecDepth 100000 in
theorem sK_1327 : ok d (mLk kk) n0 Q n c w 1327 ls st M = ok d (mLk kk) n0 Q n c w 1328 ls (.int 0 :: st) M := ok_r rfl (by rw [← ic_0]; rfl)
set_option maxRecDepth 100000 in
theorem sK_1328 {x : Int32} (ha : am_ret (mLk kk) n0 n c w) : ok d (mLk kk) n0 Q n c w 1328 ls [.int x] M = ((x = 0 ∨ x = 1) ∧ Q (some (.int x)) M) := ok_reZ rfl rfl ha
set_option maxRecDepth 100000 in
theorem sK_1329 {l0 : Option Value} {x : Nat} : ok d (mLk kk) n0 Q n c w 1329 (l0 :: some (.ref x) :: ls) st M = ok d (mLk kk) n0 Q n c w 1330 (l0 :: some (.ref x) :: ls) (.ref x :: st) M := ok_r rfl rfl
set_option maxRecDepth 100000 in
theorem sK_1330 {x : Nat} : ok d (mLk kk) n0 Q n c w 1330 (some (.ref x) :: ls) st M = ok d (mLk kk) n0 Q n c w 1331 (some (.ref x) :: ls) (.ref x :: st) M := ok_r rfl rfl
set_option maxRecDepth 100000 in
theorem sK_1331 {l0 l1 l2 l3 : Option Value} {x : Int32} : ok d (mLk kk) n0 Q n c w 1331 (l0 :: l1 :: l2 :: l3 :: some (.int x) :: ls) st M = ok d (mLk kk) n0 Q n c w 1333 (l0 :: l1 :: l2 :: l3 :: some (.int x) :: ls) (.int x :: st) M := ok_r rfl rfl
set_option maxRecDepth 100000 in
theorem sK_1333 : ok d (mLk kk) n0 Q n c w 1333 ls st M = ok d (mLk kk) n0 Q n c w 1334 ls (.int 1 :: st) M := ok_r rfl (by rw [← ic_1]; rfl)
set_option maxRecDepth 100000 in
theorem sK_1334 {x z : Int32} : ok d (mLk kk) n0 Q n c w 1334 ls (.int z :: .int x :: st) M = ok d (mLk kk) n0 Q n c w 1335 ls (.int (x + z) :: st) M := ok_r rfl rfl
set_option maxRecDepth 100000 in
theorem sK_1335 {a : Nat} {i : Int32} : ok d (mLk kk) n0 Q n c w 1335 ls (.int i :: .ref a :: st) M = (am_in n M a 1 i ∧ ok d (mLk kk) n0 Q n c w 1336 ls (.int (gI M a i.toNatClampNeg) :: st) M) := ok_r rfl rfl
set_option maxRecDepth 100000 in
theorem sK_1336 {b : Nat} {a0 : Int32} (hc : c + 0 ≤ 488 + 8 * kk) (hw : w + 0 ≤ 103327 + 64 * kk) : ok d (mLk kk) n0 Q n c w 1336 ls [.int a0, .ref b] M = (am_ob n b 10 ∧ am_big d mX10_alone [.ref b, .int a0] n M (kI fun x M' => ok d (mLk kk) n0 Q n c w 1339 ls (.int x :: []) M')) := ok_vir (y := (mLk kk)) (y' := mX10_alone) (pc := 1336) (k := 153) (ps := [964, 965, 966, 99, 967]) (c := c) (w := w) (st := [.int a0, .ref b]) (as := [.ref b, .int a0]) (rest := []) (b := b) rfl rfl rfl ⟨Nat.le_of_ble_eq_true rfl, Nat.le_of_ble_eq_true rfl, Nat.le_of_ble_eq_true rfl, hc, hw⟩ rfl rfl (am_contI (Or.inl rfl) rfl)
set_option maxRecDepth 100000 in
theorem sK_1339 {l0 l1 : Option Value} {x : Nat} : ok d (mLk kk) n0 Q n c w 1339 (l0 :: l1 :: some (.ref x) :: ls) st M = ok d (mLk kk) n0 Q n c w 1340 (l0 :: l1 :: some (.ref x) :: ls) (.ref x :: st) M := ok_r rfl rfl
set_option maxRecDepth 100000 in
theorem sK_1340 {x : Nat} : ok d (mLk kk) n0 Q n c w 1340 (some (.ref x) :: ls) st M = ok d (mLk kk) n0 Q n c w 1341 (some (.ref x) :: ls) (.ref x :: st) M := ok_r rfl rfl
set_option maxRecDepth 100000 in
theorem sK_1341 {l0 l1 l2 l3 : Option Value} {x : Int32} : ok d (mLk kk) n0 Q n c w 1341 (l0 :: l1 :: l2 :: l3 :: some (.int x) :: ls) st M = ok d (mLk kk) n0 Q n c w 1343 (l0 :: l1 :: l2 :: l3 :: some (.int x) :: ls) (.int x :: st) M := ok_r rfl rfl
set_option maxRecDepth 100000 in
theorem sK_1343 : ok d (mLk kk) n0 Q n c w 1343 ls st M = ok d (mLk kk) n0 Q n c w 1344 ls (.int 1 :: st) M := ok_r rfl (by rw [← ic_1]; rfl)
set_option maxRecDepth 100000 in
theorem sK_1344 {x z : Int32} : ok d (mLk kk) n0 Q n c w 1344 ls (.int z :: .int x :: st) M = ok d (mLk kk) n0 Q n c w 1345 ls (.int (x + z) :: st) M := ok_r rfl rfl
set_option maxRecDepth 100000 in
theorem sK_1345 {a : Nat} {i : Int32} : ok d (mLk kk) n0 Q n c w 1345 ls (.int i :: .ref a :: st) M = (am_in n M a 1 i ∧ ok d (mLk kk) n0 Q n c w 1346 ls (.int (gI M a i.toNatClampNeg) :: st) M) := ok_r rfl rfl
set_option maxRecDepth 100000 in
theorem sK_1346 {b : Nat} {v0 : Int32} {a0 : Int32} (hc : c + 0 ≤ 488 + 8 * kk) (hw : w + 0 ≤ 103327 + 64 * kk) : ok d (mLk kk) n0 Q n c w 1346 ls [.int a0, .ref b, .int v0] M = (am_ob n b 11 ∧ am_big d mX11_alone [.ref b, .int a0] n M (kI fun x M' => ok d (mLk kk) n0 Q n c w 1349 ls (.int x :: .int v0 :: []) M')) := ok_vir (y := (mLk kk)) (y' := mX11_alone) (pc := 1346) (k := 156) (ps := [1810, 1811, 1812, 110, 1813]) (c := c) (w := w) (st := [.int a0, .ref b, .int v0]) (as := [.ref b, .int a0]) (rest := [.int v0]) (b := b) rfl rfl rfl ⟨Nat.le_of_ble_eq_true rfl, Nat.le_of_ble_eq_true rfl, Nat.le_of_ble_eq_true rfl, hc, hw⟩ rfl rfl (am_contI (Or.inl rfl) rfl)
set_option maxRecDepth 100000 in
theorem sK_1349 {x z : Int32} : ok d (mLk kk) n0 Q n c w 1349 ls (.int z :: .int x :: st) M = ((x = z → ok d (mLk kk) n0 Q n c w 1695 ls st M) ∧ (¬ (x = z) → ok d (mLk kk) n0 Q n c w 1352 ls st M)) := ok_ico (pc := 1349) (off := 346) (k := .eq) rfl 1695 (by decide)
set_option maxRecDepth 100000 in
theorem sK_1352 : ok d (mLk kk) n0 Q n c w 1352 ls st M = ok d (mLk kk) n0 Q n c w 1353 ls (.int 0 :: st) M := ok_r rfl (by rw [← ic_0]; rfl)
set_option maxRecDepth 100000 in
theorem sK_1353 {x : Int32} (ha : am_ret (mLk kk) n0 n c w) : ok d (mLk kk) n0 Q n c w 1353 ls [.int x] M = ((x = 0 ∨ x = 1) ∧ Q (some (.int x)) M) := ok_reZ rfl rfl ha
set_option maxRecDepth 100000 in
theorem sK_1354 {l0 : Option Value} {x : Nat} : ok d (mLk kk) n0 Q n c w 1354 (l0 :: some (.ref x) :: ls) st M = ok d (mLk kk) n0 Q n c w 1355 (l0 :: some (.ref x) :: ls) (.ref x :: st) M := ok_r rfl rfl
set_option maxRecDepth 100000 in
theorem sK_1355 {x : Nat} : ok d (mLk kk) n0 Q n c w 1355 (some (.ref x) :: ls) st M = ok d (mLk kk) n0 Q n c w 1356 (some (.ref x) :: ls) (.ref x :: st) M := ok_r rfl rfl
set_option maxRecDepth 100000 in
theorem sK_1356 {l0 l1 l2 l3 : Option Value} {x : Int32} : ok d (mLk kk) n0 Q n c w 1356 (l0 :: l1 :: l2 :: l3 :: some (.int x) :: ls) st M = ok d (mLk kk) n0 Q n c w 1358 (l0 :: l1 :: l2 :: l3 :: some (.int x) :: ls) (.int x :: st) M := ok_r rfl rfl
set_option maxRecDepth 100000 in
theorem sK_1358 : ok d (mLk kk) n0 Q n c w 1358 ls st M = ok d (mLk kk) n0 Q n c w 1359 ls (.int 1 :: st) M := ok_r rfl (by rw [← ic_1]; rfl)
set_option maxRecDepth 100000 in
theorem sK_1359 {x z : Int32} : ok d (mLk kk) n0 Q n c w 1359 ls (.int z :: .int x :: st) M = ok d (mLk kk) n0 Q n c w 1360 ls (.int (x + z) :: st) M := ok_r rfl rfl
set_option maxRecDepth 100000 in
theorem sK_1360 {a : Nat} {i : Int32} : ok d (mLk kk) n0 Q n c w 1360 ls (.int i :: .ref a :: st) M = (am_in n M a 1 i ∧ ok d (mLk kk) n0 Q n c w 1361 ls (.int (gI M a i.toNatClampNeg) :: st) M) := ok_r rfl rfl
set_option maxRecDepth 100000 in
theorem sK_1361 {b : Nat} {a0 : Int32} (hc : c + 0 ≤ 488 + 8 * kk) (hw : w + 0 ≤ 103327 + 64 * kk) : ok d (mLk kk) n0 Q n c w 1361 ls [.int a0, .ref b] M = (am_ob n b 10 ∧ am_big d mX10_stuck [.ref b, .int a0] n M (kI fun x M' => ok d (mLk kk) n0 Q n c w 1364 ls (.int x :: []) M')) := ok_vir (y := (mLk kk)) (y' := mX10_stuck) (pc := 1361) (k := 157) (ps := [981, 969, 970, 99, 971]) (c := c) (w := w) (st := [.int a0, .ref b]) (as := [.ref b, .int a0]) (rest := []) (b := b) rfl rfl rfl ⟨Nat.le_of_ble_eq_true rfl, Nat.le_of_ble_eq_true rfl, Nat.le_of_ble_eq_true rfl, hc, hw⟩ rfl rfl (am_contI (Or.inl rfl) rfl)
set_option maxRecDepth 100000 in
theorem sK_1364 {l0 l1 : Option Value} {x : Nat} : ok d (mLk kk) n0 Q n c w 1364 (l0 :: l1 :: some (.ref x) :: ls) st M = ok d (mLk kk) n0 Q n c w 1365 (l0 :: l1 :: some (.ref x) :: ls) (.ref x :: st) M := ok_r rfl rfl
set_option maxRecDepth 100000 in
theorem sK_1365 {x : Nat} : ok d (mLk kk) n0 Q n c w 1365 (some (.ref x) :: ls) st M = ok d (mLk kk) n0 Q n c w 1366 (some (.ref x) :: ls) (.ref x :: st) M := ok_r rfl rfl
set_option maxRecDepth 100000 in
theorem sK_1366 {l0 l1 l2 l3 : Option Value} {x : Int32} : ok d (mLk kk) n0 Q n c w 1366 (l0 :: l1 :: l2 :: l3 :: some (.int x) :: ls) st M = ok d (mLk kk) n0 Q n c w 1368 (l0 :: l1 :: l2 :: l3 :: some (.int x) :: ls) (.int x :: st) M := ok_r rfl rfl
set_option maxRecDepth 100000 in
theorem sK_1368 : ok d (mLk kk) n0 Q n c w 1368 ls st M = ok d (mLk kk) n0 Q n c w 1369 ls (.int 1 :: st) M := ok_r rfl (by rw [← ic_1]; rfl)
set_option maxRecDepth 100000 in
theorem sK_1369 {x z : Int32} : ok d (mLk kk) n0 Q n c w 1369 ls (.int z :: .int x :: st) M = ok d (mLk kk) n0 Q n c w 1370 ls (.int (x + z) :: st) M := ok_r rfl rfl
set_option maxRecDepth 100000 in
theorem sK_1370 {a : Nat} {i : Int32} : ok d (mLk kk) n0 Q n c w 1370 ls (.int i :: .ref a :: st) M = (am_in n M a 1 i ∧ ok d (mLk kk) n0 Q n c w 1371 ls (.int (gI M a i.toNatClampNeg) :: st) M) := ok_r rfl rfl
set_option maxRecDepth 100000 in
theorem sK_1371 {b : Nat} {v0 : Int32} {a0 : Int32} (hc : c + 0 ≤ 488 + 8 * kk) (hw : w + 0 ≤ 103327 + 64 * kk) : ok d (mLk kk) n0 Q n c w 1371 ls [.int a0, .ref b, .int v0] M = (am_ob n b 11 ∧ am_big d mX11_stuck [.ref b, .int a0] n M (kI fun x M' => ok d (mLk kk) n0 Q n c w 1374 ls (.int x :: .int v0 :: []) M')) := ok_vir (y := (mLk kk)) (y' := mX11_stuck) (pc := 1371) (k := 160) (ps := [1830, 1831, 1832, 110, 1833]) (c := c) (w := w) (st := [.int a0, .ref b, .int v0]) (as := [.ref b, .int a0]) (rest := [.int v0]) (b := b) rfl rfl rfl ⟨Nat.le_of_ble_eq_true rfl, Nat.le_of_ble_eq_true rfl, Nat.le_of_ble_eq_true rfl, hc, hw⟩ rfl rfl (am_contI (Or.inl rfl) rfl)
set_option maxRecDepth 100000 in
theorem sK_1374 {x z : Int32} : ok d (mLk kk) n0 Q n c w 1374 ls (.int z :: .int x :: st) M = ((x = z → ok d (mLk kk) n0 Q n c w 1695 ls st M) ∧ (¬ (x = z) → ok d (mLk kk) n0 Q n c w 1377 ls st M)) := ok_ico (pc := 1374) (off := 321) (k := .eq) rfl 1695 (by decide)
set_option maxRecDepth 100000 in
theorem sK_1377 : ok d (mLk kk) n0 Q n c w 1377 ls st M = ok d (mLk kk) n0 Q n c w 1378 ls (.int 0 :: st) M := ok_r rfl (by rw [← ic_0]; rfl)
set_option maxRecDepth 100000 in
theorem sK_1378 {x : Int32} (ha : am_ret (mLk kk) n0 n c w) : ok d (mLk kk) n0 Q n c w 1378 ls [.int x] M = ((x = 0 ∨ x = 1) ∧ Q (some (.int x)) M) := ok_reZ rfl rfl ha
set_option maxRecDepth 100000 in
theorem sK_1379 {l0 : Option Value} {x : Nat} : ok d (mLk kk) n0 Q n c w 1379 (l0 :: some (.ref x) :: ls) st M = ok d (mLk kk) n0 Q n c w 1380 (l0 :: some (.ref x) :: ls) (.ref x :: st) M := ok_r rfl rfl
set_option maxRecDepth 100000 in
theorem sK_1380 {b : Nat}  (hc : c + 0 ≤ 488 + 8 * kk) (hw : w + 0 ≤ 103327 + 64 * kk) : ok d (mLk kk) n0 Q n c w 1380 ls [.ref b] M = (am_ob n b 10 ∧ am_big d mX10_team [.ref b] n M (kI fun x M' => ok d (mLk kk) n0 Q n c w 1383 ls (.int x :: []) M')) := ok_vir (y := (mLk kk)) (y' := mX10_team) (pc := 1380) (k := 161) (ps := [982, 983, 984, 99, 985]) (c := c) (w := w) (st := [.ref b]) (as := [.ref b]) (rest := []) (b := b) rfl rfl rfl ⟨Nat.le_of_ble_eq_true rfl, Nat.le_of_ble_eq_true rfl, Nat.le_of_ble_eq_true rfl, hc, hw⟩ rfl rfl (am_contI (Or.inl rfl) rfl)
set_option maxRecDepth 100000 in
theorem sK_1383 {l0 l1 : Option Value} {x : Nat} : ok d (mLk kk) n0 Q n c w 1383 (l0 :: l1 :: some (.ref x) :: ls) st M = ok d (mLk kk) n0 Q n c w 1384 (l0 :: l1 :: some (.ref x) :: ls) (.ref x :: st) M := ok_r rfl rfl
set_option maxRecDepth 100000 in
theorem sK_1384 {b : Nat} {v0 : Int32} (hc : c + 0 ≤ 488 + 8 * kk) (hw : w + 0 ≤ 103327 + 64 * kk) : ok d (mLk kk) n0 Q n c w 1384 ls [.ref b, .int v0] M = (am_ob n b 11 ∧ am_big d mX11_team [.ref b] n M (kI fun x M' => ok d (mLk kk) n0 Q n c w 1387 ls (.int x :: .int v0 :: []) M')) := ok_vir (y := (mLk kk)) (y' := mX11_team) (pc := 1384) (k := 164) (ps := [1834, 1835, 1836, 110, 1837]) (c := c) (w := w) (st := [.ref b, .int v0]) (as := [.ref b]) (rest := [.int v0]) (b := b) rfl rfl rfl ⟨Nat.le_of_ble_eq_true rfl, Nat.le_of_ble_eq_true rfl, Nat.le_of_ble_eq_true rfl, hc, hw⟩ rfl rfl (am_contI (Or.inl rfl) rfl)
set_option maxRecDepth 100000 in
theorem sK_1387 {x z : Int32} : ok d (mLk kk) n0 Q n c w 1387 ls (.int z :: .int x :: st) M = ((x = z → ok d (mLk kk) n0 Q n c w 1695 ls st M) ∧ (¬ (x = z) → ok d (mLk kk) n0 Q n c w 1390 ls st M)) := ok_ico (pc := 1387) (off := 308) (k := .eq) rfl 1695 (by decide)
set_option maxRecDepth 100000 in
theorem sK_1390 : ok d (mLk kk) n0 Q n c w 1390 ls st M = ok d (mLk kk) n0 Q n c w 1391 ls (.int 0 :: st) M := ok_r rfl (by rw [← ic_0]; rfl)
set_option maxRecDepth 100000 in
theorem sK_1391 {x : Int32} (ha : am_ret (mLk kk) n0 n c w) : ok d (mLk kk) n0 Q n c w 1391 ls [.int x] M = ((x = 0 ∨ x = 1) ∧ Q (some (.int x)) M) := ok_reZ rfl rfl ha
set_option maxRecDepth 100000 in
theorem sK_1392 {l0 : Option Value} {x : Nat} : ok d (mLk kk) n0 Q n c w 1392 (l0 :: some (.ref x) :: ls) st M = ok d (mLk kk) n0 Q n c w 1393 (l0 :: some (.ref x) :: ls) (.ref x :: st) M := ok_r rfl rfl
set_option maxRecDepth 100000 in
theorem sK_1393 {x : Nat} : ok d (mLk kk) n0 Q n c w 1393 (some (.ref x) :: ls) st M = ok d (mLk kk) n0 Q n c w 1394 (some (.ref x) :: ls) (.ref x :: st) M := ok_r rfl rfl
set_option maxRecDepth 100000 in
theorem sK_1394 {l0 l1 l2 l3 : Option Value} {x : Int32} : ok d (mLk kk) n0 Q n c w 1394 (l0 :: l1 :: l2 :: l3 :: some (.int x) :: ls) st M = ok d (mLk kk) n0 Q n c w 1396 (l0 :: l1 :: l2 :: l3 :: some (.int x) :: ls) (.int x :: st) M := ok_r rfl rfl
set_option maxRecDepth 100000 in
theorem sK_1396 : ok d (mLk kk) n0 Q n c w 1396 ls st M = ok d (mLk kk) n0 Q n c w 1397 ls (.int 1 :: st) M := ok_r rfl (by rw [← ic_1]; rfl)
set_option maxRecDepth 100000 in
theorem sK_1397 {x z : Int32} : ok d (mLk kk) n0 Q n c w 1397 ls (.int z :: .int x :: st) M = ok d (mLk kk) n0 Q n c w 1398 ls (.int (x + z) :: st) M := ok_r rfl rfl
set_option maxRecDepth 100000 in
theorem sK_1398 {a : Nat} {i : Int32} : ok d (mLk kk) n0 Q n c w 1398 ls (.int i :: .ref a :: st) M = (am_in n M a 1 i ∧ ok d (mLk kk) n0 Q n c w 1399 ls (.int (gI M a i.toNatClampNeg) :: st) M) := ok_r rfl rfl
set_option maxRecDepth 100000 in
theorem sK_1399 {b : Nat} {a0 : Int32} (hc : c + 0 ≤ 488 + 8 * kk) (hw : w + 0 ≤ 103327 + 64 * kk) : ok d (mLk kk) n0 Q n c w 1399 ls [.int a0, .ref b] M = (am_ob n b 10 ∧ am_big d mX10_lesson [.ref b, .int a0] n M (kI fun x M' => ok d (mLk kk) n0 Q n c w 1402 ls (.int x :: []) M')) := ok_vir (y := (mLk kk)) (y' := mX10_lesson) (pc := 1399) (k := 165) (ps := [986, 987, 988, 99, 989]) (c := c) (w := w) (st := [.int a0, .ref b]) (as := [.ref b, .int a0]) (rest := []) (b := b) rfl rfl rfl ⟨Nat.le_of_ble_eq_true rfl, Nat.le_of_ble_eq_true rfl, Nat.le_of_ble_eq_true rfl, hc, hw⟩ rfl rfl (am_contI (Or.inl rfl) rfl)
set_option maxRecDepth 100000 in
theorem sK_1402 {l0 l1 : Option Value} {x : Nat} : ok d (mLk kk) n0 Q n c w 1402 (l0 :: l1 :: some (.ref x) :: ls) st M = ok d (mLk kk) n0 Q n c w 1403 (l0 :: l1 :: some (.ref x) :: ls) (.ref x :: st) M := ok_r rfl rfl
set_option maxRecDepth 100000 in
theorem sK_1403 {x : Nat} : ok d (mLk kk) n0 Q n c w 1403 (some (.ref x) :: ls) st M = ok d (mLk kk) n0 Q n c w 1404 (some (.ref x) :: ls) (.ref x :: st) M := ok_r rfl rfl
set_option maxRecDepth 100000 in
theorem sK_1404 {l0 l1 l2 l3 : Option Value} {x : Int32} : ok d (mLk kk) n0 Q n c w 1404 (l0 :: l1 :: l2 :: l3 :: some (.int x) :: ls) st M = ok d (mLk kk) n0 Q n c w 1406 (l0 :: l1 :: l2 :: l3 :: some (.int x) :: ls) (.int x :: st) M := ok_r rfl rfl
set_option maxRecDepth 100000 in
theorem sK_1406 : ok d (mLk kk) n0 Q n c w 1406 ls st M = ok d (mLk kk) n0 Q n c w 1407 ls (.int 1 :: st) M := ok_r rfl (by rw [← ic_1]; rfl)
set_option maxRecDepth 100000 in
theorem sK_1407 {x z : Int32} : ok d (mLk kk) n0 Q n c w 1407 ls (.int z :: .int x :: st) M = ok d (mLk kk) n0 Q n c w 1408 ls (.int (x + z) :: st) M := ok_r rfl rfl
set_option maxRecDepth 100000 in
theorem sK_1408 {a : Nat} {i : Int32} : ok d (mLk kk) n0 Q n c w 1408 ls (.int i :: .ref a :: st) M = (am_in n M a 1 i ∧ ok d (mLk kk) n0 Q n c w 1409 ls (.int (gI M a i.toNatClampNeg) :: st) M) := ok_r rfl rfl
set_option maxRecDepth 100000 in
theorem sK_1409 {b : Nat} {v0 : Int32} {a0 : Int32} (hc : c + 0 ≤ 488 + 8 * kk) (hw : w + 0 ≤ 103327 + 64 * kk) : ok d (mLk kk) n0 Q n c w 1409 ls [.int a0, .ref b, .int v0] M = (am_ob n b 11 ∧ am_big d mX11_lesson [.ref b, .int a0] n M (kI fun x M' => ok d (mLk kk) n0 Q n c w 1412 ls (.int x :: .int v0 :: []) M')) := ok_vir (y := (mLk kk)) (y' := mX11_lesson) (pc := 1409) (k := 168) (ps := [1838, 1839, 1840, 110, 1841]) (c := c) (w := w) (st := [.int a0, .ref b, .int v0]) (as := [.ref b, .int a0]) (rest := [.int v0]) (b := b) rfl rfl rfl ⟨Nat.le_of_ble_eq_true rfl, Nat.le_of_ble_eq_true rfl, Nat.le_of_ble_eq_true rfl, hc, hw⟩ rfl rfl (am_contI (Or.inl rfl) rfl)
set_option maxRecDepth 100000 in
theorem sK_1412 {x z : Int32} : ok d (mLk kk) n0 Q n c w 1412 ls (.int z :: .int x :: st) M = ((x = z → ok d (mLk kk) n0 Q n c w 1695 ls st M) ∧ (¬ (x = z) → ok d (mLk kk) n0 Q n c w 1415 ls st M)) := ok_ico (pc := 1412) (off := 283) (k := .eq) rfl 1695 (by decide)
set_option maxRecDepth 100000 in
theorem sK_1415 : ok d (mLk kk) n0 Q n c w 1415 ls st M = ok d (mLk kk) n0 Q n c w 1416 ls (.int 0 :: st) M := ok_r rfl (by rw [← ic_0]; rfl)
set_option maxRecDepth 100000 in
theorem sK_1416 {x : Int32} (ha : am_ret (mLk kk) n0 n c w) : ok d (mLk kk) n0 Q n c w 1416 ls [.int x] M = ((x = 0 ∨ x = 1) ∧ Q (some (.int x)) M) := ok_reZ rfl rfl ha
set_option maxRecDepth 100000 in
theorem sK_1417 {l0 : Option Value} {x : Nat} : ok d (mLk kk) n0 Q n c w 1417 (l0 :: some (.ref x) :: ls) st M = ok d (mLk kk) n0 Q n c w 1418 (l0 :: some (.ref x) :: ls) (.ref x :: st) M := ok_r rfl rfl
set_option maxRecDepth 100000 in
theorem sK_1418 {x : Nat} : ok d (mLk kk) n0 Q n c w 1418 (some (.ref x) :: ls) st M = ok d (mLk kk) n0 Q n c w 1419 (some (.ref x) :: ls) (.ref x :: st) M := ok_r rfl rfl
set_option maxRecDepth 100000 in
theorem sK_1419 {l0 l1 l2 l3 : Option Value} {x : Int32} : ok d (mLk kk) n0 Q n c w 1419 (l0 :: l1 :: l2 :: l3 :: some (.int x) :: ls) st M = ok d (mLk kk) n0 Q n c w 1421 (l0 :: l1 :: l2 :: l3 :: some (.int x) :: ls) (.int x :: st) M := ok_r rfl rfl
set_option maxRecDepth 100000 in
theorem sK_1421 : ok d (mLk kk) n0 Q n c w 1421 ls st M = ok d (mLk kk) n0 Q n c w 1422 ls (.int 1 :: st) M := ok_r rfl (by rw [← ic_1]; rfl)
set_option maxRecDepth 100000 in
theorem sK_1422 {x z : Int32} : ok d (mLk kk) n0 Q n c w 1422 ls (.int z :: .int x :: st) M = ok d (mLk kk) n0 Q n c w 1423 ls (.int (x + z) :: st) M := ok_r rfl rfl
set_option maxRecDepth 100000 in
theorem sK_1423 {a : Nat} {i : Int32} : ok d (mLk kk) n0 Q n c w 1423 ls (.int i :: .ref a :: st) M = (am_in n M a 1 i ∧ ok d (mLk kk) n0 Q n c w 1424 ls (.int (gI M a i.toNatClampNeg) :: st) M) := ok_r rfl rfl
set_option maxRecDepth 100000 in
theorem sK_1424 {b : Nat} {a0 : Int32} (hc : c + 0 ≤ 488 + 8 * kk) (hw : w + 0 ≤ 103327 + 64 * kk) : ok d (mLk kk) n0 Q n c w 1424 ls [.int a0, .ref b] M = (am_ob n b 10 ∧ am_big d mX10_game [.ref b, .int a0] n M (kI fun x M' => ok d (mLk kk) n0 Q n c w 1427 ls (.int x :: []) M')) := ok_vir (y := (mLk kk)) (y' := mX10_game) (pc := 1424) (k := 169) (ps := [990, 991, 992, 99, 993]) (c := c) (w := w) (st := [.int a0, .ref b]) (as := [.ref b, .int a0]) (rest := []) (b := b) rfl rfl rfl ⟨Nat.le_of_ble_eq_true rfl, Nat.le_of_ble_eq_true rfl, Nat.le_of_ble_eq_true rfl, hc, hw⟩ rfl rfl (am_contI (Or.inl rfl) rfl)
set_option maxRecDepth 100000 in
theorem sK_1427 {l0 l1 : Option Value} {x : Nat} : ok d (mLk kk) n0 Q n c w 1427 (l0 :: l1 :: some (.ref x) :: ls) st M = ok d (mLk kk) n0 Q n c w 1428 (l0 :: l1 :: some (.ref x) :: ls) (.ref x :: st) M := ok_r rfl rfl
set_option maxRecDepth 100000 in
theorem sK_1428 {x : Nat} : ok d (mLk kk) n0 Q n c w 1428 (some (.ref x) :: ls) st M = ok d (mLk kk) n0 Q n c w 1429 (some (.ref x) :: ls) (.ref x :: st) M := ok_r rfl rfl
set_option maxRecDepth 100000 in
theorem sK_1429 {l0 l1 l2 l3 : Option Value} {x : Int32} : ok d (mLk kk) n0 Q n c w 1429 (l0 :: l1 :: l2 :: l3 :: some (.int x) :: ls) st M = ok d (mLk kk) n0 Q n c w 1431 (l0 :: l1 :: l2 :: l3 :: some (.int x) :: ls) (.int x :: st) M := ok_r rfl rfl
set_option maxRecDepth 100000 in
theorem sK_1431 : ok d (mLk kk) n0 Q n c w 1431 ls st M = ok d (mLk kk) n0 Q n c w 1432 ls (.int 1 :: st) M := ok_r rfl (by rw [← ic_1]; rfl)
set_option maxRecDepth 100000 in
theorem sK_1432 {x z : Int32} : ok d (mLk kk) n0 Q n c w 1432 ls (.int z :: .int x :: st) M = ok d (mLk kk) n0 Q n c w 1433 ls (.int (x + z) :: st) M := ok_r rfl rfl
set_option maxRecDepth 100000 in
theorem sK_1433 {a : Nat} {i : Int32} : ok d (mLk kk) n0 Q n c w 1433 ls (.int i :: .ref a :: st) M = (am_in n M a 1 i ∧ ok d (mLk kk) n0 Q n c w 1434 ls (.int (gI M a i.toNatClampNeg) :: st) M) := ok_r rfl rfl
set_option maxRecDepth 100000 in
theorem sK_1434 {b : Nat} {v0 : Int32} {a0 : Int32} (hc : c + 0 ≤ 488 + 8 * kk) (hw : w + 0 ≤ 103327 + 64 * kk) : ok d (mLk kk) n0 Q n c w 1434 ls [.int a0, .ref b, .int v0] M = (am_ob n b 11 ∧ am_big d mX11_game [.ref b, .int a0] n M (kI fun x M' => ok d (mLk kk) n0 Q n c w 1437 ls (.int x :: .int v0 :: []) M')) := ok_vir (y := (mLk kk)) (y' := mX11_game) (pc := 1434) (k := 172) (ps := [1842, 1843, 1844, 110, 1845]) (c := c) (w := w) (st := [.int a0, .ref b, .int v0]) (as := [.ref b, .int a0]) (rest := [.int v0]) (b := b) rfl rfl rfl ⟨Nat.le_of_ble_eq_true rfl, Nat.le_of_ble_eq_true rfl, Nat.le_of_ble_eq_true rfl, hc, hw⟩ rfl rfl (am_contI (Or.inl rfl) rfl)
set_option maxRecDepth 100000 in
theorem sK_1437 {x z : Int32} : ok d (mLk kk) n0 Q n c w 1437 ls (.int z :: .int x :: st) M = ((x = z → ok d (mLk kk) n0 Q n c w 1695 ls st M) ∧ (¬ (x = z) → ok d (mLk kk) n0 Q n c w 1440 ls st M)) := ok_ico (pc := 1437) (off := 258) (k := .eq) rfl 1695 (by decide)
set_option maxRecDepth 100000 in
theorem sK_1440 : ok d (mLk kk) n0 Q n c w 1440 ls st M = ok d (mLk kk) n0 Q n c w 1441 ls (.int 0 :: st) M := ok_r rfl (by rw [← ic_0]; rfl)
set_option maxRecDepth 100000 in
theorem sK_1441 {x : Int32} (ha : am_ret (mLk kk) n0 n c w) : ok d (mLk kk) n0 Q n c w 1441 ls [.int x] M = ((x = 0 ∨ x = 1) ∧ Q (some (.int x)) M) := ok_reZ rfl rfl ha
set_option maxRecDepth 100000 in
theorem sK_1442 {l0 : Option Value} {x : Nat} : ok d (mLk kk) n0 Q n c w 1442 (l0 :: some (.ref x) :: ls) st M = ok d (mLk kk) n0 Q n c w 1443 (l0 :: some (.ref x) :: ls) (.ref x :: st) M := ok_r rfl rfl
set_option maxRecDepth 100000 in
theorem sK_1443 {x : Nat} : ok d (mLk kk) n0 Q n c w 1443 (some (.ref x) :: ls) st M = ok d (mLk kk) n0 Q n c w 1444 (some (.ref x) :: ls) (.ref x :: st) M := ok_r rfl rfl
set_option maxRecDepth 100000 in
theorem sK_1444 {l0 l1 l2 l3 : Option Value} {x : Int32} : ok d (mLk kk) n0 Q n c w 1444 (l0 :: l1 :: l2 :: l3 :: some (.int x) :: ls) st M = ok d (mLk kk) n0 Q n c w 1446 (l0 :: l1 :: l2 :: l3 :: some (.int x) :: ls) (.int x :: st) M := ok_r rfl rfl
set_option maxRecDepth 100000 in
theorem sK_1446 : ok d (mLk kk) n0 Q n c w 1446 ls st M = ok d (mLk kk) n0 Q n c w 1447 ls (.int 1 :: st) M := ok_r rfl (by rw [← ic_1]; rfl)
set_option maxRecDepth 100000 in
theorem sK_1447 {x z : Int32} : ok d (mLk kk) n0 Q n c w 1447 ls (.int z :: .int x :: st) M = ok d (mLk kk) n0 Q n c w 1448 ls (.int (x + z) :: st) M := ok_r rfl rfl
set_option maxRecDepth 100000 in
theorem sK_1448 {a : Nat} {i : Int32} : ok d (mLk kk) n0 Q n c w 1448 ls (.int i :: .ref a :: st) M = (am_in n M a 1 i ∧ ok d (mLk kk) n0 Q n c w 1449 ls (.int (gI M a i.toNatClampNeg) :: st) M) := ok_r rfl rfl
set_option maxRecDepth 100000 in
theorem sK_1449 {x : Nat} : ok d (mLk kk) n0 Q n c w 1449 (some (.ref x) :: ls) st M = ok d (mLk kk) n0 Q n c w 1450 (some (.ref x) :: ls) (.ref x :: st) M := ok_r rfl rfl
set_option maxRecDepth 100000 in
theorem sK_1450 {l0 l1 l2 l3 : Option Value} {x : Int32} : ok d (mLk kk) n0 Q n c w 1450 (l0 :: l1 :: l2 :: l3 :: some (.int x) :: ls) st M = ok d (mLk kk) n0 Q n c w 1452 (l0 :: l1 :: l2 :: l3 :: some (.int x) :: ls) (.int x :: st) M := ok_r rfl rfl
set_option maxRecDepth 100000 in
theorem sK_1452 : ok d (mLk kk) n0 Q n c w 1452 ls st M = ok d (mLk kk) n0 Q n c w 1453 ls (.int 2 :: st) M := ok_r rfl (by rw [← ic_2]; rfl)
set_option maxRecDepth 100000 in
theorem sK_1453 {x z : Int32} : ok d (mLk kk) n0 Q n c w 1453 ls (.int z :: .int x :: st) M = ok d (mLk kk) n0 Q n c w 1454 ls (.int (x + z) :: st) M := ok_r rfl rfl
set_option maxRecDepth 100000 in
theorem sK_1454 {a : Nat} {i : Int32} : ok d (mLk kk) n0 Q n c w 1454 ls (.int i :: .ref a :: st) M = (am_in n M a 1 i ∧ ok d (mLk kk) n0 Q n c w 1455 ls (.int (gI M a i.toNatClampNeg) :: st) M) := ok_r rfl rfl
set_option maxRecDepth 100000 in
theorem sK_1455 {b : Nat} {a0 : Int32} {a1 : Int32} (hc : c + 0 ≤ 488 + 8 * kk) (hw : w + 0 ≤ 103327 + 64 * kk) : ok d (mLk kk) n0 Q n c w 1455 ls [.int a1, .int a0, .ref b] M = (am_ob n b 10 ∧ am_big d mX10_odds [.ref b, .int a0, .int a1] n M (kI fun x M' => ok d (mLk kk) n0 Q n c w 1458 ls (.int x :: []) M')) := ok_vir (y := (mLk kk)) (y' := mX10_odds) (pc := 1455) (k := 173) (ps := [1010, 1011, 1012, 99, 1013]) (c := c) (w := w) (st := [.int a1, .int a0, .ref b]) (as := [.ref b, .int a0, .int a1]) (rest := []) (b := b) rfl rfl rfl ⟨Nat.le_of_ble_eq_true rfl, Nat.le_of_ble_eq_true rfl, Nat.le_of_ble_eq_true rfl, hc, hw⟩ rfl rfl (am_contI (Or.inl rfl) rfl)
set_option maxRecDepth 100000 in
theorem sK_1458 {l0 l1 : Option Value} {x : Nat} : ok d (mLk kk) n0 Q n c w 1458 (l0 :: l1 :: some (.ref x) :: ls) st M = ok d (mLk kk) n0 Q n c w 1459 (l0 :: l1 :: some (.ref x) :: ls) (.ref x :: st) M := ok_r rfl rfl
set_option maxRecDepth 100000 in
theorem sK_1459 {x : Nat} : ok d (mLk kk) n0 Q n c w 1459 (some (.ref x) :: ls) st M = ok d (mLk kk) n0 Q n c w 1460 (some (.ref x) :: ls) (.ref x :: st) M := ok_r rfl rfl
set_option maxRecDepth 100000 in
theorem sK_1460 {l0 l1 l2 l3 : Option Value} {x : Int32} : ok d (mLk kk) n0 Q n c w 1460 (l0 :: l1 :: l2 :: l3 :: some (.int x) :: ls) st M = ok d (mLk kk) n0 Q n c w 1462 (l0 :: l1 :: l2 :: l3 :: some (.int x) :: ls) (.int x :: st) M := ok_r rfl rfl
set_option maxRecDepth 100000 in
theorem sK_1462 : ok d (mLk kk) n0 Q n c w 1462 ls st M = ok d (mLk kk) n0 Q n c w 1463 ls (.int 1 :: st) M := ok_r rfl (by rw [← ic_1]; rfl)
set_option maxRecDepth 100000 in
theorem sK_1463 {x z : Int32} : ok d (mLk kk) n0 Q n c w 1463 ls (.int z :: .int x :: st) M = ok d (mLk kk) n0 Q n c w 1464 ls (.int (x + z) :: st) M := ok_r rfl rfl
set_option maxRecDepth 100000 in
theorem sK_1464 {a : Nat} {i : Int32} : ok d (mLk kk) n0 Q n c w 1464 ls (.int i :: .ref a :: st) M = (am_in n M a 1 i ∧ ok d (mLk kk) n0 Q n c w 1465 ls (.int (gI M a i.toNatClampNeg) :: st) M) := ok_r rfl rfl
set_option maxRecDepth 100000 in
theorem sK_1465 {x : Nat} : ok d (mLk kk) n0 Q n c w 1465 (some (.ref x) :: ls) st M = ok d (mLk kk) n0 Q n c w 1466 (some (.ref x) :: ls) (.ref x :: st) M := ok_r rfl rfl
set_option maxRecDepth 100000 in
theorem sK_1466 {l0 l1 l2 l3 : Option Value} {x : Int32} : ok d (mLk kk) n0 Q n c w 1466 (l0 :: l1 :: l2 :: l3 :: some (.int x) :: ls) st M = ok d (mLk kk) n0 Q n c w 1468 (l0 :: l1 :: l2 :: l3 :: some (.int x) :: ls) (.int x :: st) M := ok_r rfl rfl
set_option maxRecDepth 100000 in
theorem sK_1468 : ok d (mLk kk) n0 Q n c w 1468 ls st M = ok d (mLk kk) n0 Q n c w 1469 ls (.int 2 :: st) M := ok_r rfl (by rw [← ic_2]; rfl)
set_option maxRecDepth 100000 in
theorem sK_1469 {x z : Int32} : ok d (mLk kk) n0 Q n c w 1469 ls (.int z :: .int x :: st) M = ok d (mLk kk) n0 Q n c w 1470 ls (.int (x + z) :: st) M := ok_r rfl rfl
set_option maxRecDepth 100000 in
theorem sK_1470 {a : Nat} {i : Int32} : ok d (mLk kk) n0 Q n c w 1470 ls (.int i :: .ref a :: st) M = (am_in n M a 1 i ∧ ok d (mLk kk) n0 Q n c w 1471 ls (.int (gI M a i.toNatClampNeg) :: st) M) := ok_r rfl rfl
set_option maxRecDepth 100000 in
theorem sK_1471 {b : Nat} {v0 : Int32} {a0 : Int32} {a1 : Int32} (hc : c + 0 ≤ 488 + 8 * kk) (hw : w + 0 ≤ 103327 + 64 * kk) : ok d (mLk kk) n0 Q n c w 1471 ls [.int a1, .int a0, .ref b, .int v0] M = (am_ob n b 11 ∧ am_big d mX11_odds [.ref b, .int a0, .int a1] n M (kI fun x M' => ok d (mLk kk) n0 Q n c w 1474 ls (.int x :: .int v0 :: []) M')) := ok_vir (y := (mLk kk)) (y' := mX11_odds) (pc := 1471) (k := 176) (ps := [1850, 1851, 1852, 110, 1853]) (c := c) (w := w) (st := [.int a1, .int a0, .ref b, .int v0]) (as := [.ref b, .int a0, .int a1]) (rest := [.int v0]) (b := b) rfl rfl rfl ⟨Nat.le_of_ble_eq_true rfl, Nat.le_of_ble_eq_true rfl, Nat.le_of_ble_eq_true rfl, hc, hw⟩ rfl rfl (am_contI (Or.inl rfl) rfl)
set_option maxRecDepth 100000 in
theorem sK_1474 {x z : Int32} : ok d (mLk kk) n0 Q n c w 1474 ls (.int z :: .int x :: st) M = ((x = z → ok d (mLk kk) n0 Q n c w 1695 ls st M) ∧ (¬ (x = z) → ok d (mLk kk) n0 Q n c w 1477 ls st M)) := ok_ico (pc := 1474) (off := 221) (k := .eq) rfl 1695 (by decide)
set_option maxRecDepth 100000 in
theorem sK_1477 : ok d (mLk kk) n0 Q n c w 1477 ls st M = ok d (mLk kk) n0 Q n c w 1478 ls (.int 0 :: st) M := ok_r rfl (by rw [← ic_0]; rfl)
set_option maxRecDepth 100000 in
theorem sK_1478 {x : Int32} (ha : am_ret (mLk kk) n0 n c w) : ok d (mLk kk) n0 Q n c w 1478 ls [.int x] M = ((x = 0 ∨ x = 1) ∧ Q (some (.int x)) M) := ok_reZ rfl rfl ha
set_option maxRecDepth 100000 in
theorem sK_1479 {l0 : Option Value} {x : Nat} : ok d (mLk kk) n0 Q n c w 1479 (l0 :: some (.ref x) :: ls) st M = ok d (mLk kk) n0 Q n c w 1480 (l0 :: some (.ref x) :: ls) (.ref x :: st) M := ok_r rfl rfl
set_option maxRecDepth 100000 in
theorem sK_1480 {x : Nat} : ok d (mLk kk) n0 Q n c w 1480 (some (.ref x) :: ls) st M = ok d (mLk kk) n0 Q n c w 1481 (some (.ref x) :: ls) (.ref x :: st) M := ok_r rfl rfl
set_option maxRecDepth 100000 in
theorem sK_1481 {l0 l1 l2 l3 : Option Value} {x : Int32} : ok d (mLk kk) n0 Q n c w 1481 (l0 :: l1 :: l2 :: l3 :: some (.int x) :: ls) st M = ok d (mLk kk) n0 Q n c w 1483 (l0 :: l1 :: l2 :: l3 :: some (.int x) :: ls) (.int x :: st) M := ok_r rfl rfl
set_option maxRecDepth 100000 in
theorem sK_1483 : ok d (mLk kk) n0 Q n c w 1483 ls st M = ok d (mLk kk) n0 Q n c w 1484 ls (.int 1 :: st) M := ok_r rfl (by rw [← ic_1]; rfl)
set_option maxRecDepth 100000 in
theorem sK_1484 {x z : Int32} : ok d (mLk kk) n0 Q n c w 1484 ls (.int z :: .int x :: st) M = ok d (mLk kk) n0 Q n c w 1485 ls (.int (x + z) :: st) M := ok_r rfl rfl
set_option maxRecDepth 100000 in
theorem sK_1485 {a : Nat} {i : Int32} : ok d (mLk kk) n0 Q n c w 1485 ls (.int i :: .ref a :: st) M = (am_in n M a 1 i ∧ ok d (mLk kk) n0 Q n c w 1486 ls (.int (gI M a i.toNatClampNeg) :: st) M) := ok_r rfl rfl
set_option maxRecDepth 100000 in
theorem sK_1486 {x : Nat} : ok d (mLk kk) n0 Q n c w 1486 (some (.ref x) :: ls) st M = ok d (mLk kk) n0 Q n c w 1487 (some (.ref x) :: ls) (.ref x :: st) M := ok_r rfl rfl
set_option maxRecDepth 100000 in
theorem sK_1487 {l0 l1 l2 l3 : Option Value} {x : Int32} : ok d (mLk kk) n0 Q n c w 1487 (l0 :: l1 :: l2 :: l3 :: some (.int x) :: ls) st M = ok d (mLk kk) n0 Q n c w 1489 (l0 :: l1 :: l2 :: l3 :: some (.int x) :: ls) (.int x :: st) M := ok_r rfl rfl
set_option maxRecDepth 100000 in
theorem sK_1489 : ok d (mLk kk) n0 Q n c w 1489 ls st M = ok d (mLk kk) n0 Q n c w 1490 ls (.int 2 :: st) M := ok_r rfl (by rw [← ic_2]; rfl)
set_option maxRecDepth 100000 in
theorem sK_1490 {x z : Int32} : ok d (mLk kk) n0 Q n c w 1490 ls (.int z :: .int x :: st) M = ok d (mLk kk) n0 Q n c w 1491 ls (.int (x + z) :: st) M := ok_r rfl rfl
set_option maxRecDepth 100000 in
theorem sK_1491 {a : Nat} {i : Int32} : ok d (mLk kk) n0 Q n c w 1491 ls (.int i :: .ref a :: st) M = (am_in n M a 1 i ∧ ok d (mLk kk) n0 Q n c w 1492 ls (.int (gI M a i.toNatClampNeg) :: st) M) := ok_r rfl rfl
set_option maxRecDepth 100000 in
theorem sK_1492 {x : Nat} : ok d (mLk kk) n0 Q n c w 1492 (some (.ref x) :: ls) st M = ok d (mLk kk) n0 Q n c w 1493 (some (.ref x) :: ls) (.ref x :: st) M := ok_r rfl rfl
set_option maxRecDepth 100000 in
theorem sK_1493 {l0 l1 l2 l3 : Option Value} {x : Int32} : ok d (mLk kk) n0 Q n c w 1493 (l0 :: l1 :: l2 :: l3 :: some (.int x) :: ls) st M = ok d (mLk kk) n0 Q n c w 1495 (l0 :: l1 :: l2 :: l3 :: some (.int x) :: ls) (.int x :: st) M := ok_r rfl rfl
set_option maxRecDepth 100000 in
theorem sK_1495 : ok d (mLk kk) n0 Q n c w 1495 ls st M = ok d (mLk kk) n0 Q n c w 1496 ls (.int 3 :: st) M := ok_r rfl (by rw [← ic_3]; rfl)
set_option maxRecDepth 100000 in
theorem sK_1496 {x z : Int32} : ok d (mLk kk) n0 Q n c w 1496 ls (.int z :: .int x :: st) M = ok d (mLk kk) n0 Q n c w 1497 ls (.int (x + z) :: st) M := ok_r rfl rfl
set_option maxRecDepth 100000 in
theorem sK_1497 {a : Nat} {i : Int32} : ok d (mLk kk) n0 Q n c w 1497 ls (.int i :: .ref a :: st) M = (am_in n M a 1 i ∧ ok d (mLk kk) n0 Q n c w 1498 ls (.int (gI M a i.toNatClampNeg) :: st) M) := ok_r rfl rfl
set_option maxRecDepth 100000 in
theorem sK_1498 {x : Int32} : ok d (mLk kk) n0 Q n c w 1498 ls (.int x :: st) M = ((x = 0 → ok d (mLk kk) n0 Q n c w 1505 ls st M) ∧ (¬ (x = 0) → ok d (mLk kk) n0 Q n c w 1501 ls st M)) := ok_ifc (pc := 1498) (off := 7) (k := .eq) rfl 1505 (by decide)
set_option maxRecDepth 100000 in
theorem sK_1501 : ok d (mLk kk) n0 Q n c w 1501 ls st M = ok d (mLk kk) n0 Q n c w 1502 ls (.int 1 :: st) M := ok_r rfl (by rw [← ic_1]; rfl)
set_option maxRecDepth 100000 in
theorem sK_1502 : ok d (mLk kk) n0 Q n c w 1502 ls st M = ok d (mLk kk) n0 Q n c w 1506 ls st M := ok_got (pc := 1502) (off := 4) rfl 1506 (by decide)
set_option maxRecDepth 100000 in
theorem sK_1505 : ok d (mLk kk) n0 Q n c w 1505 ls st M = ok d (mLk kk) n0 Q n c w 1506 ls (.int 0 :: st) M := ok_r rfl (by rw [← ic_0]; rfl)
set_option maxRecDepth 100000 in
theorem sK_1506 {b : Nat} {a0 : Int32} {a1 : Int32} {a2 : Int32} (hc : c + 0 ≤ 488 + 8 * kk) (hw : w + 0 ≤ 103327 + 64 * kk) : ok d (mLk kk) n0 Q n c w 1506 ls [.int a2, .int a1, .int a0, .ref b] M = (am_ob n b 10 ∧ am_big d mX10_seen [.ref b, .int a0, .int a1, .int a2] n M (kI fun x M' => ok d (mLk kk) n0 Q n c w 1509 ls (.int x :: []) M')) := ok_vir (y := (mLk kk)) (y' := mX10_seen) (pc := 1506) (k := 177) (ps := [1017, 1018, 1019, 99, 1020]) (c := c) (w := w) (st := [.int a2, .int a1, .int a0, .ref b]) (as := [.ref b, .int a0, .int a1, .int a2]) (rest := []) (b := b) rfl rfl rfl ⟨Nat.le_of_ble_eq_true rfl, Nat.le_of_ble_eq_true rfl, Nat.le_of_ble_eq_true rfl, hc, hw⟩ rfl rfl (am_contI (Or.inl rfl) rfl)
set_option maxRecDepth 100000 in
theorem sK_1509 {l0 l1 : Option Value} {x : Nat} : ok d (mLk kk) n0 Q n c w 1509 (l0 :: l1 :: some (.ref x) :: ls) st M = ok d (mLk kk) n0 Q n c w 1510 (l0 :: l1 :: some (.ref x) :: ls) (.ref x :: st) M := ok_r rfl rfl
set_option maxRecDepth 100000 in
theorem sK_1510 {x : Nat} : ok d (mLk kk) n0 Q n c w 1510 (some (.ref x) :: ls) st M = ok d (mLk kk) n0 Q n c w 1511 (some (.ref x) :: ls) (.ref x :: st) M := ok_r rfl rfl
set_option maxRecDepth 100000 in
theorem sK_1511 {l0 l1 l2 l3 : Option Value} {x : Int32} : ok d (mLk kk) n0 Q n c w 1511 (l0 :: l1 :: l2 :: l3 :: some (.int x) :: ls) st M = ok d (mLk kk) n0 Q n c w 1513 (l0 :: l1 :: l2 :: l3 :: some (.int x) :: ls) (.int x :: st) M := ok_r rfl rfl
set_option maxRecDepth 100000 in
theorem sK_1513 : ok d (mLk kk) n0 Q n c w 1513 ls st M = ok d (mLk kk) n0 Q n c w 1514 ls (.int 1 :: st) M := ok_r rfl (by rw [← ic_1]; rfl)
set_option maxRecDepth 100000 in
theorem sK_1514 {x z : Int32} : ok d (mLk kk) n0 Q n c w 1514 ls (.int z :: .int x :: st) M = ok d (mLk kk) n0 Q n c w 1515 ls (.int (x + z) :: st) M := ok_r rfl rfl
set_option maxRecDepth 100000 in
theorem sK_1515 {a : Nat} {i : Int32} : ok d (mLk kk) n0 Q n c w 1515 ls (.int i :: .ref a :: st) M = (am_in n M a 1 i ∧ ok d (mLk kk) n0 Q n c w 1516 ls (.int (gI M a i.toNatClampNeg) :: st) M) := ok_r rfl rfl
set_option maxRecDepth 100000 in
theorem sK_1516 {x : Nat} : ok d (mLk kk) n0 Q n c w 1516 (some (.ref x) :: ls) st M = ok d (mLk kk) n0 Q n c w 1517 (some (.ref x) :: ls) (.ref x :: st) M := ok_r rfl rfl
set_option maxRecDepth 100000 in
theorem sK_1517 {l0 l1 l2 l3 : Option Value} {x : Int32} : ok d (mLk kk) n0 Q n c w 1517 (l0 :: l1 :: l2 :: l3 :: some (.int x) :: ls) st M = ok d (mLk kk) n0 Q n c w 1519 (l0 :: l1 :: l2 :: l3 :: some (.int x) :: ls) (.int x :: st) M := ok_r rfl rfl
set_option maxRecDepth 100000 in
theorem sK_1519 : ok d (mLk kk) n0 Q n c w 1519 ls st M = ok d (mLk kk) n0 Q n c w 1520 ls (.int 2 :: st) M := ok_r rfl (by rw [← ic_2]; rfl)
set_option maxRecDepth 100000 in
theorem sK_1520 {x z : Int32} : ok d (mLk kk) n0 Q n c w 1520 ls (.int z :: .int x :: st) M = ok d (mLk kk) n0 Q n c w 1521 ls (.int (x + z) :: st) M := ok_r rfl rfl
set_option maxRecDepth 100000 in
theorem sK_1521 {a : Nat} {i : Int32} : ok d (mLk kk) n0 Q n c w 1521 ls (.int i :: .ref a :: st) M = (am_in n M a 1 i ∧ ok d (mLk kk) n0 Q n c w 1522 ls (.int (gI M a i.toNatClampNeg) :: st) M) := ok_r rfl rfl
set_option maxRecDepth 100000 in
theorem sK_1522 {x : Nat} : ok d (mLk kk) n0 Q n c w 1522 (some (.ref x) :: ls) st M = ok d (mLk kk) n0 Q n c w 1523 (some (.ref x) :: ls) (.ref x :: st) M := ok_r rfl rfl
set_option maxRecDepth 100000 in
theorem sK_1523 {l0 l1 l2 l3 : Option Value} {x : Int32} : ok d (mLk kk) n0 Q n c w 1523 (l0 :: l1 :: l2 :: l3 :: some (.int x) :: ls) st M = ok d (mLk kk) n0 Q n c w 1525 (l0 :: l1 :: l2 :: l3 :: some (.int x) :: ls) (.int x :: st) M := ok_r rfl rfl
set_option maxRecDepth 100000 in
theorem sK_1525 : ok d (mLk kk) n0 Q n c w 1525 ls st M = ok d (mLk kk) n0 Q n c w 1526 ls (.int 3 :: st) M := ok_r rfl (by rw [← ic_3]; rfl)
set_option maxRecDepth 100000 in
theorem sK_1526 {x z : Int32} : ok d (mLk kk) n0 Q n c w 1526 ls (.int z :: .int x :: st) M = ok d (mLk kk) n0 Q n c w 1527 ls (.int (x + z) :: st) M := ok_r rfl rfl
set_option maxRecDepth 100000 in
theorem sK_1527 {a : Nat} {i : Int32} : ok d (mLk kk) n0 Q n c w 1527 ls (.int i :: .ref a :: st) M = (am_in n M a 1 i ∧ ok d (mLk kk) n0 Q n c w 1528 ls (.int (gI M a i.toNatClampNeg) :: st) M) := ok_r rfl rfl
set_option maxRecDepth 100000 in
theorem sK_1528 {x : Int32} : ok d (mLk kk) n0 Q n c w 1528 ls (.int x :: st) M = ((x = 0 → ok d (mLk kk) n0 Q n c w 1535 ls st M) ∧ (¬ (x = 0) → ok d (mLk kk) n0 Q n c w 1531 ls st M)) := ok_ifc (pc := 1528) (off := 7) (k := .eq) rfl 1535 (by decide)
set_option maxRecDepth 100000 in
theorem sK_1531 : ok d (mLk kk) n0 Q n c w 1531 ls st M = ok d (mLk kk) n0 Q n c w 1532 ls (.int 1 :: st) M := ok_r rfl (by rw [← ic_1]; rfl)
set_option maxRecDepth 100000 in
theorem sK_1532 : ok d (mLk kk) n0 Q n c w 1532 ls st M = ok d (mLk kk) n0 Q n c w 1536 ls st M := ok_got (pc := 1532) (off := 4) rfl 1536 (by decide)
set_option maxRecDepth 100000 in
theorem sK_1535 : ok d (mLk kk) n0 Q n c w 1535 ls st M = ok d (mLk kk) n0 Q n c w 1536 ls (.int 0 :: st) M := ok_r rfl (by rw [← ic_0]; rfl)
set_option maxRecDepth 100000 in
theorem sK_1536 {b : Nat} {v0 : Int32} {a0 : Int32} {a1 : Int32} {a2 : Int32} (hc : c + 0 ≤ 488 + 8 * kk) (hw : w + 0 ≤ 103327 + 64 * kk) : ok d (mLk kk) n0 Q n c w 1536 ls [.int a2, .int a1, .int a0, .ref b, .int v0] M = (am_ob n b 11 ∧ am_big d mX11_seen [.ref b, .int a0, .int a1, .int a2] n M (kI fun x M' => ok d (mLk kk) n0 Q n c w 1539 ls (.int x :: .int v0 :: []) M')) := ok_vir (y := (mLk kk)) (y' := mX11_seen) (pc := 1536) (k := 181) (ps := [1856, 1857, 1858, 110, 1859]) (c := c) (w := w) (st := [.int a2, .int a1, .int a0, .ref b, .int v0]) (as := [.ref b, .int a0, .int a1, .int a2]) (rest := [.int v0]) (b := b) rfl rfl rfl ⟨Nat.le_of_ble_eq_true rfl, Nat.le_of_ble_eq_true rfl, Nat.le_of_ble_eq_true rfl, hc, hw⟩ rfl rfl (am_contI (Or.inl rfl) rfl)
set_option maxRecDepth 100000 in
theorem sK_1539 {x z : Int32} : ok d (mLk kk) n0 Q n c w 1539 ls (.int z :: .int x :: st) M = ((x = z → ok d (mLk kk) n0 Q n c w 1695 ls st M) ∧ (¬ (x = z) → ok d (mLk kk) n0 Q n c w 1542 ls st M)) := ok_ico (pc := 1539) (off := 156) (k := .eq) rfl 1695 (by decide)
set_option maxRecDepth 100000 in
theorem sK_1542 : ok d (mLk kk) n0 Q n c w 1542 ls st M = ok d (mLk kk) n0 Q n c w 1543 ls (.int 0 :: st) M := ok_r rfl (by rw [← ic_0]; rfl)
set_option maxRecDepth 100000 in
theorem sK_1543 {x : Int32} (ha : am_ret (mLk kk) n0 n c w) : ok d (mLk kk) n0 Q n c w 1543 ls [.int x] M = ((x = 0 ∨ x = 1) ∧ Q (some (.int x)) M) := ok_reZ rfl rfl ha
set_option maxRecDepth 100000 in
theorem sK_1544 {l0 : Option Value} {x : Nat} : ok d (mLk kk) n0 Q n c w 1544 (l0 :: some (.ref x) :: ls) st M = ok d (mLk kk) n0 Q n c w 1545 (l0 :: some (.ref x) :: ls) (.ref x :: st) M := ok_r rfl rfl
set_option maxRecDepth 100000 in
theorem sK_1545 {x : Nat} : ok d (mLk kk) n0 Q n c w 1545 (some (.ref x) :: ls) st M = ok d (mLk kk) n0 Q n c w 1546 (some (.ref x) :: ls) (.ref x :: st) M := ok_r rfl rfl
set_option maxRecDepth 100000 in
theorem sK_1546 {l0 l1 l2 l3 : Option Value} {x : Int32} : ok d (mLk kk) n0 Q n c w 1546 (l0 :: l1 :: l2 :: l3 :: some (.int x) :: ls) st M = ok d (mLk kk) n0 Q n c w 1548 (l0 :: l1 :: l2 :: l3 :: some (.int x) :: ls) (.int x :: st) M := ok_r rfl rfl
set_option maxRecDepth 100000 in
theorem sK_1548 : ok d (mLk kk) n0 Q n c w 1548 ls st M = ok d (mLk kk) n0 Q n c w 1549 ls (.int 1 :: st) M := ok_r rfl (by rw [← ic_1]; rfl)
set_option maxRecDepth 100000 in
theorem sK_1549 {x z : Int32} : ok d (mLk kk) n0 Q n c w 1549 ls (.int z :: .int x :: st) M = ok d (mLk kk) n0 Q n c w 1550 ls (.int (x + z) :: st) M := ok_r rfl rfl
set_option maxRecDepth 100000 in
theorem sK_1550 {a : Nat} {i : Int32} : ok d (mLk kk) n0 Q n c w 1550 ls (.int i :: .ref a :: st) M = (am_in n M a 1 i ∧ ok d (mLk kk) n0 Q n c w 1551 ls (.int (gI M a i.toNatClampNeg) :: st) M) := ok_r rfl rfl
set_option maxRecDepth 100000 in
theorem sK_1551 {b : Nat} {a0 : Int32} (hc : c + 0 ≤ 488 + 8 * kk) (hw : w + 0 ≤ 103327 + 64 * kk) : ok d (mLk kk) n0 Q n c w 1551 ls [.int a0, .ref b] M = (am_ob n b 10 ∧ am_big d mX10_args [.ref b, .int a0] n M (kI fun x M' => ok d (mLk kk) n0 Q n c w 1554 ls (.int x :: []) M')) := ok_vir (y := (mLk kk)) (y' := mX10_args) (pc := 1551) (k := 182) (ps := [1025, 1026, 1027, 99, 1028]) (c := c) (w := w) (st := [.int a0, .ref b]) (as := [.ref b, .int a0]) (rest := []) (b := b) rfl rfl rfl ⟨Nat.le_of_ble_eq_true rfl, Nat.le_of_ble_eq_true rfl, Nat.le_of_ble_eq_true rfl, hc, hw⟩ rfl rfl (am_contI (Or.inl rfl) rfl)
set_option maxRecDepth 100000 in
theorem sK_1554 {l0 l1 : Option Value} {x : Nat} : ok d (mLk kk) n0 Q n c w 1554 (l0 :: l1 :: some (.ref x) :: ls) st M = ok d (mLk kk) n0 Q n c w 1555 (l0 :: l1 :: some (.ref x) :: ls) (.ref x :: st) M := ok_r rfl rfl
set_option maxRecDepth 100000 in
theorem sK_1555 {x : Nat} : ok d (mLk kk) n0 Q n c w 1555 (some (.ref x) :: ls) st M = ok d (mLk kk) n0 Q n c w 1556 (some (.ref x) :: ls) (.ref x :: st) M := ok_r rfl rfl
set_option maxRecDepth 100000 in
theorem sK_1556 {l0 l1 l2 l3 : Option Value} {x : Int32} : ok d (mLk kk) n0 Q n c w 1556 (l0 :: l1 :: l2 :: l3 :: some (.int x) :: ls) st M = ok d (mLk kk) n0 Q n c w 1558 (l0 :: l1 :: l2 :: l3 :: some (.int x) :: ls) (.int x :: st) M := ok_r rfl rfl
set_option maxRecDepth 100000 in
theorem sK_1558 : ok d (mLk kk) n0 Q n c w 1558 ls st M = ok d (mLk kk) n0 Q n c w 1559 ls (.int 1 :: st) M := ok_r rfl (by rw [← ic_1]; rfl)
set_option maxRecDepth 100000 in
theorem sK_1559 {x z : Int32} : ok d (mLk kk) n0 Q n c w 1559 ls (.int z :: .int x :: st) M = ok d (mLk kk) n0 Q n c w 1560 ls (.int (x + z) :: st) M := ok_r rfl rfl
set_option maxRecDepth 100000 in
theorem sK_1560 {a : Nat} {i : Int32} : ok d (mLk kk) n0 Q n c w 1560 ls (.int i :: .ref a :: st) M = (am_in n M a 1 i ∧ ok d (mLk kk) n0 Q n c w 1561 ls (.int (gI M a i.toNatClampNeg) :: st) M) := ok_r rfl rfl
set_option maxRecDepth 100000 in
theorem sK_1561 {b : Nat} {v0 : Int32} {a0 : Int32} (hc : c + 0 ≤ 488 + 8 * kk) (hw : w + 0 ≤ 103327 + 64 * kk) : ok d (mLk kk) n0 Q n c w 1561 ls [.int a0, .ref b, .int v0] M = (am_ob n b 11 ∧ am_big d mX11_args [.ref b, .int a0] n M (kI fun x M' => ok d (mLk kk) n0 Q n c w 1564 ls (.int x :: .int v0 :: []) M')) := ok_vir (y := (mLk kk)) (y' := mX11_args) (pc := 1561) (k := 185) (ps := [1861, 1862, 1863, 110, 1864]) (c := c) (w := w) (st := [.int a0, .ref b, .int v0]) (as := [.ref b, .int a0]) (rest := [.int v0]) (b := b) rfl rfl rfl ⟨Nat.le_of_ble_eq_true rfl, Nat.le_of_ble_eq_true rfl, Nat.le_of_ble_eq_true rfl, hc, hw⟩ rfl rfl (am_contI (Or.inl rfl) rfl)
set_option maxRecDepth 100000 in
theorem sK_1564 {x z : Int32} : ok d (mLk kk) n0 Q n c w 1564 ls (.int z :: .int x :: st) M = ((x = z → ok d (mLk kk) n0 Q n c w 1695 ls st M) ∧ (¬ (x = z) → ok d (mLk kk) n0 Q n c w 1567 ls st M)) := ok_ico (pc := 1564) (off := 131) (k := .eq) rfl 1695 (by decide)
set_option maxRecDepth 100000 in
theorem sK_1567 : ok d (mLk kk) n0 Q n c w 1567 ls st M = ok d (mLk kk) n0 Q n c w 1568 ls (.int 0 :: st) M := ok_r rfl (by rw [← ic_0]; rfl)
set_option maxRecDepth 100000 in
theorem sK_1568 {x : Int32} (ha : am_ret (mLk kk) n0 n c w) : ok d (mLk kk) n0 Q n c w 1568 ls [.int x] M = ((x = 0 ∨ x = 1) ∧ Q (some (.int x)) M) := ok_reZ rfl rfl ha
set_option maxRecDepth 100000 in
theorem sK_1569 {l0 : Option Value} {x : Nat} : ok d (mLk kk) n0 Q n c w 1569 (l0 :: some (.ref x) :: ls) st M = ok d (mLk kk) n0 Q n c w 1570 (l0 :: some (.ref x) :: ls) (.ref x :: st) M := ok_r rfl rfl
set_option maxRecDepth 100000 in
theorem sK_1570 {x : Nat} : ok d (mLk kk) n0 Q n c w 1570 (some (.ref x) :: ls) st M = ok d (mLk kk) n0 Q n c w 1571 (some (.ref x) :: ls) (.ref x :: st) M := ok_r rfl rfl
set_option maxRecDepth 100000 in
theorem sK_1571 {l0 l1 l2 l3 : Option Value} {x : Int32} : ok d (mLk kk) n0 Q n c w 1571 (l0 :: l1 :: l2 :: l3 :: some (.int x) :: ls) st M = ok d (mLk kk) n0 Q n c w 1573 (l0 :: l1 :: l2 :: l3 :: some (.int x) :: ls) (.int x :: st) M := ok_r rfl rfl
set_option maxRecDepth 100000 in
theorem sK_1573 : ok d (mLk kk) n0 Q n c w 1573 ls st M = ok d (mLk kk) n0 Q n c w 1574 ls (.int 1 :: st) M := ok_r rfl (by rw [← ic_1]; rfl)
set_option maxRecDepth 100000 in
theorem sK_1574 {x z : Int32} : ok d (mLk kk) n0 Q n c w 1574 ls (.int z :: .int x :: st) M = ok d (mLk kk) n0 Q n c w 1575 ls (.int (x + z) :: st) M := ok_r rfl rfl
set_option maxRecDepth 100000 in
theorem sK_1575 {a : Nat} {i : Int32} : ok d (mLk kk) n0 Q n c w 1575 ls (.int i :: .ref a :: st) M = (am_in n M a 1 i ∧ ok d (mLk kk) n0 Q n c w 1576 ls (.int (gI M a i.toNatClampNeg) :: st) M) := ok_r rfl rfl
set_option maxRecDepth 100000 in
theorem sK_1576 {b : Nat} {a0 : Int32} (hc : c + 0 ≤ 488 + 8 * kk) (hw : w + 0 ≤ 103327 + 64 * kk) : ok d (mLk kk) n0 Q n c w 1576 ls [.int a0, .ref b] M = (am_ob n b 10 ∧ am_big d mX10_ask [.ref b, .int a0] n M (kI fun x M' => ok d (mLk kk) n0 Q n c w 1579 ls (.int x :: []) M')) := ok_vir (y := (mLk kk)) (y' := mX10_ask) (pc := 1576) (k := 186) (ps := [1039, 1040, 1041, 99, 1042]) (c := c) (w := w) (st := [.int a0, .ref b]) (as := [.ref b, .int a0]) (rest := []) (b := b) rfl rfl rfl ⟨Nat.le_of_ble_eq_true rfl, Nat.le_of_ble_eq_true rfl, Nat.le_of_ble_eq_true rfl, hc, hw⟩ rfl rfl (am_contI (Or.inl rfl) rfl)
set_option maxRecDepth 100000 in
theorem sK_1579 {l0 l1 : Option Value} {x : Nat} : ok d (mLk kk) n0 Q n c w 1579 (l0 :: l1 :: some (.ref x) :: ls) st M = ok d (mLk kk) n0 Q n c w 1580 (l0 :: l1 :: some (.ref x) :: ls) (.ref x :: st) M := ok_r rfl rfl
set_option maxRecDepth 100000 in
theorem sK_1580 {x : Nat} : ok d (mLk kk) n0 Q n c w 1580 (some (.ref x) :: ls) st M = ok d (mLk kk) n0 Q n c w 1581 (some (.ref x) :: ls) (.ref x :: st) M := ok_r rfl rfl
set_option maxRecDepth 100000 in
theorem sK_1581 {l0 l1 l2 l3 : Option Value} {x : Int32} : ok d (mLk kk) n0 Q n c w 1581 (l0 :: l1 :: l2 :: l3 :: some (.int x) :: ls) st M = ok d (mLk kk) n0 Q n c w 1583 (l0 :: l1 :: l2 :: l3 :: some (.int x) :: ls) (.int x :: st) M := ok_r rfl rfl
set_option maxRecDepth 100000 in
theorem sK_1583 : ok d (mLk kk) n0 Q n c w 1583 ls st M = ok d (mLk kk) n0 Q n c w 1584 ls (.int 1 :: st) M := ok_r rfl (by rw [← ic_1]; rfl)
set_option maxRecDepth 100000 in
theorem sK_1584 {x z : Int32} : ok d (mLk kk) n0 Q n c w 1584 ls (.int z :: .int x :: st) M = ok d (mLk kk) n0 Q n c w 1585 ls (.int (x + z) :: st) M := ok_r rfl rfl
set_option maxRecDepth 100000 in
theorem sK_1585 {a : Nat} {i : Int32} : ok d (mLk kk) n0 Q n c w 1585 ls (.int i :: .ref a :: st) M = (am_in n M a 1 i ∧ ok d (mLk kk) n0 Q n c w 1586 ls (.int (gI M a i.toNatClampNeg) :: st) M) := ok_r rfl rfl
set_option maxRecDepth 100000 in
theorem sK_1586 {b : Nat} {v0 : Int32} {a0 : Int32} (hc : c + 0 ≤ 488 + 8 * kk) (hw : w + 0 ≤ 103327 + 64 * kk) : ok d (mLk kk) n0 Q n c w 1586 ls [.int a0, .ref b, .int v0] M = (am_ob n b 11 ∧ am_big d mX11_ask [.ref b, .int a0] n M (kI fun x M' => ok d (mLk kk) n0 Q n c w 1589 ls (.int x :: .int v0 :: []) M')) := ok_vir (y := (mLk kk)) (y' := mX11_ask) (pc := 1586) (k := 189) (ps := [1873, 1874, 1875, 110, 1876]) (c := c) (w := w) (st := [.int a0, .ref b, .int v0]) (as := [.ref b, .int a0]) (rest := [.int v0]) (b := b) rfl rfl rfl ⟨Nat.le_of_ble_eq_true rfl, Nat.le_of_ble_eq_true rfl, Nat.le_of_ble_eq_true rfl, hc, hw⟩ rfl rfl (am_contI (Or.inl rfl) rfl)
set_option maxRecDepth 100000 in
theorem sK_1589 {x z : Int32} : ok d (mLk kk) n0 Q n c w 1589 ls (.int z :: .int x :: st) M = ((x = z → ok d (mLk kk) n0 Q n c w 1695 ls st M) ∧ (¬ (x = z) → ok d (mLk kk) n0 Q n c w 1592 ls st M)) := ok_ico (pc := 1589) (off := 106) (k := .eq) rfl 1695 (by decide)
set_option maxRecDepth 100000 in
theorem sK_1592 : ok d (mLk kk) n0 Q n c w 1592 ls st M = ok d (mLk kk) n0 Q n c w 1593 ls (.int 0 :: st) M := ok_r rfl (by rw [← ic_0]; rfl)
set_option maxRecDepth 100000 in
theorem sK_1593 {x : Int32} (ha : am_ret (mLk kk) n0 n c w) : ok d (mLk kk) n0 Q n c w 1593 ls [.int x] M = ((x = 0 ∨ x = 1) ∧ Q (some (.int x)) M) := ok_reZ rfl rfl ha
set_option maxRecDepth 100000 in
theorem sK_1594 {l0 : Option Value} {x : Nat} : ok d (mLk kk) n0 Q n c w 1594 (l0 :: some (.ref x) :: ls) st M = ok d (mLk kk) n0 Q n c w 1595 (l0 :: some (.ref x) :: ls) (.ref x :: st) M := ok_r rfl rfl
set_option maxRecDepth 100000 in
theorem sK_1595 {x : Nat} : ok d (mLk kk) n0 Q n c w 1595 (some (.ref x) :: ls) st M = ok d (mLk kk) n0 Q n c w 1596 (some (.ref x) :: ls) (.ref x :: st) M := ok_r rfl rfl
set_option maxRecDepth 100000 in
theorem sK_1596 {l0 l1 l2 l3 : Option Value} {x : Int32} : ok d (mLk kk) n0 Q n c w 1596 (l0 :: l1 :: l2 :: l3 :: some (.int x) :: ls) st M = ok d (mLk kk) n0 Q n c w 1598 (l0 :: l1 :: l2 :: l3 :: some (.int x) :: ls) (.int x :: st) M := ok_r rfl rfl
set_option maxRecDepth 100000 in
theorem sK_1598 : ok d (mLk kk) n0 Q n c w 1598 ls st M = ok d (mLk kk) n0 Q n c w 1599 ls (.int 1 :: st) M := ok_r rfl (by rw [← ic_1]; rfl)
set_option maxRecDepth 100000 in
theorem sK_1599 {x z : Int32} : ok d (mLk kk) n0 Q n c w 1599 ls (.int z :: .int x :: st) M = ok d (mLk kk) n0 Q n c w 1600 ls (.int (x + z) :: st) M := ok_r rfl rfl
set_option maxRecDepth 100000 in
theorem sK_1600 {a : Nat} {i : Int32} : ok d (mLk kk) n0 Q n c w 1600 ls (.int i :: .ref a :: st) M = (am_in n M a 1 i ∧ ok d (mLk kk) n0 Q n c w 1601 ls (.int (gI M a i.toNatClampNeg) :: st) M) := ok_r rfl rfl
set_option maxRecDepth 100000 in
theorem sK_1601 {b : Nat} {a0 : Int32} (hc : c + 0 ≤ 488 + 8 * kk) (hw : w + 0 ≤ 103327 + 64 * kk) : ok d (mLk kk) n0 Q n c w 1601 ls [.int a0, .ref b] M = (am_ob n b 10 ∧ am_big d mX10_upon [.ref b, .int a0] n M (kI fun x M' => ok d (mLk kk) n0 Q n c w 1604 ls (.int x :: []) M')) := ok_vir (y := (mLk kk)) (y' := mX10_upon) (pc := 1601) (k := 190) (ps := [1055, 1056, 1057, 99, 1058]) (c := c) (w := w) (st := [.int a0, .ref b]) (as := [.ref b, .int a0]) (rest := []) (b := b) rfl rfl rfl ⟨Nat.le_of_ble_eq_true rfl, Nat.le_of_ble_eq_true rfl, Nat.le_of_ble_eq_true rfl, hc, hw⟩ rfl rfl (am_contI (Or.inl rfl) rfl)
set_option maxRecDepth 100000 in
theorem sK_1604 {l0 l1 : Option Value} {x : Nat} : ok d (mLk kk) n0 Q n c w 1604 (l0 :: l1 :: some (.ref x) :: ls) st M = ok d (mLk kk) n0 Q n c w 1605 (l0 :: l1 :: some (.ref x) :: ls) (.ref x :: st) M := ok_r rfl rfl
set_option maxRecDepth 100000 in
theorem sK_1605 {x : Nat} : ok d (mLk kk) n0 Q n c w 1605 (some (.ref x) :: ls) st M = ok d (mLk kk) n0 Q n c w 1606 (some (.ref x) :: ls) (.ref x :: st) M := ok_r rfl rfl
set_option maxRecDepth 100000 in
theorem sK_1606 {l0 l1 l2 l3 : Option Value} {x : Int32} : ok d (mLk kk) n0 Q n c w 1606 (l0 :: l1 :: l2 :: l3 :: some (.int x) :: ls) st M = ok d (mLk kk) n0 Q n c w 1608 (l0 :: l1 :: l2 :: l3 :: some (.int x) :: ls) (.int x :: st) M := ok_r rfl rfl
set_option maxRecDepth 100000 in
theorem sK_1608 : ok d (mLk kk) n0 Q n c w 1608 ls st M = ok d (mLk kk) n0 Q n c w 1609 ls (.int 1 :: st) M := ok_r rfl (by rw [← ic_1]; rfl)
set_option maxRecDepth 100000 in
theorem sK_1609 {x z : Int32} : ok d (mLk kk) n0 Q n c w 1609 ls (.int z :: .int x :: st) M = ok d (mLk kk) n0 Q n c w 1610 ls (.int (x + z) :: st) M := ok_r rfl rfl
set_option maxRecDepth 100000 in
theorem sK_1610 {a : Nat} {i : Int32} : ok d (mLk kk) n0 Q n c w 1610 ls (.int i :: .ref a :: st) M = (am_in n M a 1 i ∧ ok d (mLk kk) n0 Q n c w 1611 ls (.int (gI M a i.toNatClampNeg) :: st) M) := ok_r rfl rfl
set_option maxRecDepth 100000 in
theorem sK_1611 {b : Nat} {v0 : Int32} {a0 : Int32} (hc : c + 0 ≤ 488 + 8 * kk) (hw : w + 0 ≤ 103327 + 64 * kk) : ok d (mLk kk) n0 Q n c w 1611 ls [.int a0, .ref b, .int v0] M = (am_ob n b 11 ∧ am_big d mX11_upon [.ref b, .int a0] n M (kI fun x M' => ok d (mLk kk) n0 Q n c w 1614 ls (.int x :: .int v0 :: []) M')) := ok_vir (y := (mLk kk)) (y' := mX11_upon) (pc := 1611) (k := 193) (ps := [1878, 1879, 1880, 110, 1881]) (c := c) (w := w) (st := [.int a0, .ref b, .int v0]) (as := [.ref b, .int a0]) (rest := [.int v0]) (b := b) rfl rfl rfl ⟨Nat.le_of_ble_eq_true rfl, Nat.le_of_ble_eq_true rfl, Nat.le_of_ble_eq_true rfl, hc, hw⟩ rfl rfl (am_contI (Or.inl rfl) rfl)
set_option maxRecDepth 100000 in
theorem sK_1614 {x z : Int32} : ok d (mLk kk) n0 Q n c w 1614 ls (.int z :: .int x :: st) M = ((x = z → ok d (mLk kk) n0 Q n c w 1695 ls st M) ∧ (¬ (x = z) → ok d (mLk kk) n0 Q n c w 1617 ls st M)) := ok_ico (pc := 1614) (off := 81) (k := .eq) rfl 1695 (by decide)
set_option maxRecDepth 100000 in
theorem sK_1617 : ok d (mLk kk) n0 Q n c w 1617 ls st M = ok d (mLk kk) n0 Q n c w 1618 ls (.int 0 :: st) M := ok_r rfl (by rw [← ic_0]; rfl)
set_option maxRecDepth 100000 in
theorem sK_1618 {x : Int32} (ha : am_ret (mLk kk) n0 n c w) : ok d (mLk kk) n0 Q n c w 1618 ls [.int x] M = ((x = 0 ∨ x = 1) ∧ Q (some (.int x)) M) := ok_reZ rfl rfl ha
set_option maxRecDepth 100000 in
theorem sK_1619 {l0 : Option Value} {x : Nat} : ok d (mLk kk) n0 Q n c w 1619 (l0 :: some (.ref x) :: ls) st M = ok d (mLk kk) n0 Q n c w 1620 (l0 :: some (.ref x) :: ls) (.ref x :: st) M := ok_r rfl rfl
set_option maxRecDepth 100000 in
theorem sK_1620 {x : Nat} : ok d (mLk kk) n0 Q n c w 1620 (some (.ref x) :: ls) st M = ok d (mLk kk) n0 Q n c w 1621 (some (.ref x) :: ls) (.ref x :: st) M := ok_r rfl rfl
set_option maxRecDepth 100000 in
theorem sK_1621 {l0 l1 l2 l3 : Option Value} {x : Int32} : ok d (mLk kk) n0 Q n c w 1621 (l0 :: l1 :: l2 :: l3 :: some (.int x) :: ls) st M = ok d (mLk kk) n0 Q n c w 1623 (l0 :: l1 :: l2 :: l3 :: some (.int x) :: ls) (.int x :: st) M := ok_r rfl rfl
set_option maxRecDepth 100000 in
theorem sK_1623 : ok d (mLk kk) n0 Q n c w 1623 ls st M = ok d (mLk kk) n0 Q n c w 1624 ls (.int 1 :: st) M := ok_r rfl (by rw [← ic_1]; rfl)
set_option maxRecDepth 100000 in
theorem sK_1624 {x z : Int32} : ok d (mLk kk) n0 Q n c w 1624 ls (.int z :: .int x :: st) M = ok d (mLk kk) n0 Q n c w 1625 ls (.int (x + z) :: st) M := ok_r rfl rfl
set_option maxRecDepth 100000 in
theorem sK_1625 {a : Nat} {i : Int32} : ok d (mLk kk) n0 Q n c w 1625 ls (.int i :: .ref a :: st) M = (am_in n M a 1 i ∧ ok d (mLk kk) n0 Q n c w 1626 ls (.int (gI M a i.toNatClampNeg) :: st) M) := ok_r rfl rfl
set_option maxRecDepth 100000 in
theorem sK_1626 {b : Nat} {a0 : Int32} (hc : c + 0 ≤ 488 + 8 * kk) (hw : w + 0 ≤ 103327 + 64 * kk) : ok d (mLk kk) n0 Q n c w 1626 ls [.int a0, .ref b] M = (am_ob n b 10 ∧ am_big d mX10_all [.ref b, .int a0] n M (kI fun x M' => ok d (mLk kk) n0 Q n c w 1629 ls (.int x :: []) M')) := ok_vir (y := (mLk kk)) (y' := mX10_all) (pc := 1626) (k := 194) (ps := [1061, 1062, 1063, 99, 1064]) (c := c) (w := w) (st := [.int a0, .ref b]) (as := [.ref b, .int a0]) (rest := []) (b := b) rfl rfl rfl ⟨Nat.le_of_ble_eq_true rfl, Nat.le_of_ble_eq_true rfl, Nat.le_of_ble_eq_true rfl, hc, hw⟩ rfl rfl (am_contI (Or.inl rfl) rfl)
set_option maxRecDepth 100000 in
theorem sK_1629 {l0 l1 : Option Value} {x : Nat} : ok d (mLk kk) n0 Q n c w 1629 (l0 :: l1 :: some (.ref x) :: ls) st M = ok d (mLk kk) n0 Q n c w 1630 (l0 :: l1 :: some (.ref x) :: ls) (.ref x :: st) M := ok_r rfl rfl
set_option maxRecDepth 100000 in
theorem sK_1630 {x : Nat} : ok d (mLk kk) n0 Q n c w 1630 (some (.ref x) :: ls) st M = ok d (mLk kk) n0 Q n c w 1631 (some (.ref x) :: ls) (.ref x :: st) M := ok_r rfl rfl
set_option maxRecDepth 100000 in
theorem sK_1631 {l0 l1 l2 l3 : Option Value} {x : Int32} : ok d (mLk kk) n0 Q n c w 1631 (l0 :: l1 :: l2 :: l3 :: some (.int x) :: ls) st M = ok d (mLk kk) n0 Q n c w 1633 (l0 :: l1 :: l2 :: l3 :: some (.int x) :: ls) (.int x :: st) M := ok_r rfl rfl
set_option maxRecDepth 100000 in
theorem sK_1633 : ok d (mLk kk) n0 Q n c w 1633 ls st M = ok d (mLk kk) n0 Q n c w 1634 ls (.int 1 :: st) M := ok_r rfl (by rw [← ic_1]; rfl)
set_option maxRecDepth 100000 in
theorem sK_1634 {x z : Int32} : ok d (mLk kk) n0 Q n c w 1634 ls (.int z :: .int x :: st) M = ok d (mLk kk) n0 Q n c w 1635 ls (.int (x + z) :: st) M := ok_r rfl rfl
set_option maxRecDepth 100000 in
theorem sK_1635 {a : Nat} {i : Int32} : ok d (mLk kk) n0 Q n c w 1635 ls (.int i :: .ref a :: st) M = (am_in n M a 1 i ∧ ok d (mLk kk) n0 Q n c w 1636 ls (.int (gI M a i.toNatClampNeg) :: st) M) := ok_r rfl rfl
set_option maxRecDepth 100000 in
theorem sK_1636 {b : Nat} {v0 : Int32} {a0 : Int32} (hc : c + 0 ≤ 488 + 8 * kk) (hw : w + 0 ≤ 103327 + 64 * kk) : ok d (mLk kk) n0 Q n c w 1636 ls [.int a0, .ref b, .int v0] M = (am_ob n b 11 ∧ am_big d mX11_all [.ref b, .int a0] n M (kI fun x M' => ok d (mLk kk) n0 Q n c w 1639 ls (.int x :: .int v0 :: []) M')) := ok_vir (y := (mLk kk)) (y' := mX11_all) (pc := 1636) (k := 197) (ps := [1882, 1883, 1884, 110, 1885]) (c := c) (w := w) (st := [.int a0, .ref b, .int v0]) (as := [.ref b, .int a0]) (rest := [.int v0]) (b := b) rfl rfl rfl ⟨Nat.le_of_ble_eq_true rfl, Nat.le_of_ble_eq_true rfl, Nat.le_of_ble_eq_true rfl, hc, hw⟩ rfl rfl (am_contI (Or.inl rfl) rfl)
set_option maxRecDepth 100000 in
theorem sK_1639 {x z : Int32} : ok d (mLk kk) n0 Q n c w 1639 ls (.int z :: .int x :: st) M = ((x = z → ok d (mLk kk) n0 Q n c w 1695 ls st M) ∧ (¬ (x = z) → ok d (mLk kk) n0 Q n c w 1642 ls st M)) := ok_ico (pc := 1639) (off := 56) (k := .eq) rfl 1695 (by decide)
set_option maxRecDepth 100000 in
theorem sK_1642 : ok d (mLk kk) n0 Q n c w 1642 ls st M = ok d (mLk kk) n0 Q n c w 1643 ls (.int 0 :: st) M := ok_r rfl (by rw [← ic_0]; rfl)
set_option maxRecDepth 100000 in
theorem sK_1643 {x : Int32} (ha : am_ret (mLk kk) n0 n c w) : ok d (mLk kk) n0 Q n c w 1643 ls [.int x] M = ((x = 0 ∨ x = 1) ∧ Q (some (.int x)) M) := ok_reZ rfl rfl ha
set_option maxRecDepth 100000 in
theorem sK_1644 {l0 : Option Value} {x : Nat} : ok d (mLk kk) n0 Q n c w 1644 (l0 :: some (.ref x) :: ls) st M = ok d (mLk kk) n0 Q n c w 1645 (l0 :: some (.ref x) :: ls) (.ref x :: st) M := ok_r rfl rfl
set_option maxRecDepth 100000 in
theorem sK_1645 {b : Nat}  (hc : c + 0 ≤ 488 + 8 * kk) (hw : w + 0 ≤ 103327 + 64 * kk) : ok d (mLk kk) n0 Q n c w 1645 ls [.ref b] M = (am_ob n b 10 ∧ am_big d mX10_image [.ref b] n M (kI fun x M' => ok d (mLk kk) n0 Q n c w 1648 ls (.int x :: []) M')) := ok_vir (y := (mLk kk)) (y' := mX10_image) (pc := 1645) (k := 198) (ps := [1101, 1102, 1103, 99, 1104]) (c := c) (w := w) (st := [.ref b]) (as := [.ref b]) (rest := []) (b := b) rfl rfl rfl ⟨Nat.le_of_ble_eq_true rfl, Nat.le_of_ble_eq_true rfl, Nat.le_of_ble_eq_true rfl, hc, hw⟩ rfl rfl (am_contI (Or.inl rfl) rfl)
set_option maxRecDepth 100000 in
theorem sK_1648 {l0 l1 : Option Value} {x : Nat} : ok d (mLk kk) n0 Q n c w 1648 (l0 :: l1 :: some (.ref x) :: ls) st M = ok d (mLk kk) n0 Q n c w 1649 (l0 :: l1 :: some (.ref x) :: ls) (.ref x :: st) M := ok_r rfl rfl
set_option maxRecDepth 100000 in
theorem sK_1649 {b : Nat} {v0 : Int32} (hc : c + 0 ≤ 488 + 8 * kk) (hw : w + 0 ≤ 103327 + 64 * kk) : ok d (mLk kk) n0 Q n c w 1649 ls [.ref b, .int v0] M = (am_ob n b 11 ∧ am_big d mX11_image [.ref b] n M (kI fun x M' => ok d (mLk kk) n0 Q n c w 1652 ls (.int x :: .int v0 :: []) M')) := ok_vir (y := (mLk kk)) (y' := mX11_image) (pc := 1649) (k := 201) (ps := [1898, 1899, 1900, 110, 1901]) (c := c) (w := w) (st := [.ref b, .int v0]) (as := [.ref b]) (rest := [.int v0]) (b := b) rfl rfl rfl ⟨Nat.le_of_ble_eq_true rfl, Nat.le_of_ble_eq_true rfl, Nat.le_of_ble_eq_true rfl, hc, hw⟩ rfl rfl (am_contI (Or.inl rfl) rfl)
set_option maxRecDepth 100000 in
theorem sK_1652 {x z : Int32} : ok d (mLk kk) n0 Q n c w 1652 ls (.int z :: .int x :: st) M = ((x = z → ok d (mLk kk) n0 Q n c w 1695 ls st M) ∧ (¬ (x = z) → ok d (mLk kk) n0 Q n c w 1655 ls st M)) := ok_ico (pc := 1652) (off := 43) (k := .eq) rfl 1695 (by decide)
set_option maxRecDepth 100000 in
theorem sK_1655 : ok d (mLk kk) n0 Q n c w 1655 ls st M = ok d (mLk kk) n0 Q n c w 1656 ls (.int 0 :: st) M := ok_r rfl (by rw [← ic_0]; rfl)
set_option maxRecDepth 100000 in
theorem sK_1656 {x : Int32} (ha : am_ret (mLk kk) n0 n c w) : ok d (mLk kk) n0 Q n c w 1656 ls [.int x] M = ((x = 0 ∨ x = 1) ∧ Q (some (.int x)) M) := ok_reZ rfl rfl ha
set_option maxRecDepth 100000 in
theorem sK_1657 {l0 : Option Value} {x : Nat} : ok d (mLk kk) n0 Q n c w 1657 (l0 :: some (.ref x) :: ls) st M = ok d (mLk kk) n0 Q n c w 1658 (l0 :: some (.ref x) :: ls) (.ref x :: st) M := ok_r rfl rfl
set_option maxRecDepth 100000 in
theorem sK_1658 {b : Nat}  (hc : c + 0 ≤ 488 + 8 * kk) (hw : w + 0 ≤ 103327 + 64 * kk) : ok d (mLk kk) n0 Q n c w 1658 ls [.ref b] M = (am_ob n b 10 ∧ am_big d mX10_back [.ref b] n M (kI fun x M' => ok d (mLk kk) n0 Q n c w 1661 ls (.int x :: []) M')) := ok_vir (y := (mLk kk)) (y' := mX10_back) (pc := 1658) (k := 202) (ps := [1105, 1106, 1107, 99, 1108]) (c := c) (w := w) (st := [.ref b]) (as := [.ref b]) (rest := []) (b := b) rfl rfl rfl ⟨Nat.le_of_ble_eq_true rfl, Nat.le_of_ble_eq_true rfl, Nat.le_of_ble_eq_true rfl, hc, hw⟩ rfl rfl (am_contI (Or.inl rfl) rfl)
set_option maxRecDepth 100000 in
theorem sK_1661 {l0 l1 : Option Value} {x : Nat} : ok d (mLk kk) n0 Q n c w 1661 (l0 :: l1 :: some (.ref x) :: ls) st M = ok d (mLk kk) n0 Q n c w 1662 (l0 :: l1 :: some (.ref x) :: ls) (.ref x :: st) M := ok_r rfl rfl
set_option maxRecDepth 100000 in
theorem sK_1662 {b : Nat} {v0 : Int32} (hc : c + 0 ≤ 488 + 8 * kk) (hw : w + 0 ≤ 103327 + 64 * kk) : ok d (mLk kk) n0 Q n c w 1662 ls [.ref b, .int v0] M = (am_ob n b 11 ∧ am_big d mX11_back [.ref b] n M (kI fun x M' => ok d (mLk kk) n0 Q n c w 1665 ls (.int x :: .int v0 :: []) M')) := ok_vir (y := (mLk kk)) (y' := mX11_back) (pc := 1662) (k := 205) (ps := [1902, 1903, 1904, 110, 1905]) (c := c) (w := w) (st := [.ref b, .int v0]) (as := [.ref b]) (rest := [.int v0]) (b := b) rfl rfl rfl ⟨Nat.le_of_ble_eq_true rfl, Nat.le_of_ble_eq_true rfl, Nat.le_of_ble_eq_true rfl, hc, hw⟩ rfl rfl (am_contI (Or.inl rfl) rfl)
set_option maxRecDepth 100000 in
theorem sK_1665 {x z : Int32} : ok d (mLk kk) n0 Q n c w 1665 ls (.int z :: .int x :: st) M = ((x = z → ok d (mLk kk) n0 Q n c w 1695 ls st M) ∧ (¬ (x = z) → ok d (mLk kk) n0 Q n c w 1668 ls st M)) := ok_ico (pc := 1665) (off := 30) (k := .eq) rfl 1695 (by decide)
set_option maxRecDepth 100000 in
theorem sK_1668 : ok d (mLk kk) n0 Q n c w 1668 ls st M = ok d (mLk kk) n0 Q n c w 1669 ls (.int 0 :: st) M := ok_r rfl (by rw [← ic_0]; rfl)
set_option maxRecDepth 100000 in
theorem sK_1669 {x : Int32} (ha : am_ret (mLk kk) n0 n c w) : ok d (mLk kk) n0 Q n c w 1669 ls [.int x] M = ((x = 0 ∨ x = 1) ∧ Q (some (.int x)) M) := ok_reZ rfl rfl ha
set_option maxRecDepth 100000 in
theorem sK_1670 {l0 : Option Value} {x : Nat} : ok d (mLk kk) n0 Q n c w 1670 (l0 :: some (.ref x) :: ls) st M = ok d (mLk kk) n0 Q n c w 1671 (l0 :: some (.ref x) :: ls) (.ref x :: st) M := ok_r rfl rfl
set_option maxRecDepth 100000 in
theorem sK_1671 {x : Nat} : ok d (mLk kk) n0 Q n c w 1671 (some (.ref x) :: ls) st M = ok d (mLk kk) n0 Q n c w 1672 (some (.ref x) :: ls) (.ref x :: st) M := ok_r rfl rfl
set_option maxRecDepth 100000 in
theorem sK_1672 {l0 l1 l2 l3 : Option Value} {x : Int32} : ok d (mLk kk) n0 Q n c w 1672 (l0 :: l1 :: l2 :: l3 :: some (.int x) :: ls) st M = ok d (mLk kk) n0 Q n c w 1674 (l0 :: l1 :: l2 :: l3 :: some (.int x) :: ls) (.int x :: st) M := ok_r rfl rfl
set_option maxRecDepth 100000 in
theorem sK_1674 : ok d (mLk kk) n0 Q n c w 1674 ls st M = ok d (mLk kk) n0 Q n c w 1675 ls (.int 1 :: st) M := ok_r rfl (by rw [← ic_1]; rfl)
set_option maxRecDepth 100000 in
theorem sK_1675 {x z : Int32} : ok d (mLk kk) n0 Q n c w 1675 ls (.int z :: .int x :: st) M = ok d (mLk kk) n0 Q n c w 1676 ls (.int (x + z) :: st) M := ok_r rfl rfl
set_option maxRecDepth 100000 in
theorem sK_1676 {a : Nat} {i : Int32} : ok d (mLk kk) n0 Q n c w 1676 ls (.int i :: .ref a :: st) M = (am_in n M a 1 i ∧ ok d (mLk kk) n0 Q n c w 1677 ls (.int (gI M a i.toNatClampNeg) :: st) M) := ok_r rfl rfl
set_option maxRecDepth 100000 in
theorem sK_1677 {b : Nat} {a0 : Int32} (hc : c + 0 ≤ 488 + 8 * kk) (hw : w + 0 ≤ 103327 + 64 * kk) : ok d (mLk kk) n0 Q n c w 1677 ls [.int a0, .ref b] M = (am_ob n b 10 ∧ am_big d mX10_count [.ref b, .int a0] n M (kI fun x M' => ok d (mLk kk) n0 Q n c w 1680 ls (.int x :: []) M')) := ok_vir (y := (mLk kk)) (y' := mX10_count) (pc := 1677) (k := 206) (ps := [1109, 1110, 1111, 99, 1112]) (c := c) (w := w) (st := [.int a0, .ref b]) (as := [.ref b, .int a0]) (rest := []) (b := b) rfl rfl rfl ⟨Nat.le_of_ble_eq_true rfl, Nat.le_of_ble_eq_true rfl, Nat.le_of_ble_eq_true rfl, hc, hw⟩ rfl rfl (am_contI (Or.inl rfl) rfl)
set_option maxRecDepth 100000 in
theorem sK_1680 {l0 l1 : Option Value} {x : Nat} : ok d (mLk kk) n0 Q n c w 1680 (l0 :: l1 :: some (.ref x) :: ls) st M = ok d (mLk kk) n0 Q n c w 1681 (l0 :: l1 :: some (.ref x) :: ls) (.ref x :: st) M := ok_r rfl rfl
set_option maxRecDepth 100000 in
theorem sK_1681 {x : Nat} : ok d (mLk kk) n0 Q n c w 1681 (some (.ref x) :: ls) st M = ok d (mLk kk) n0 Q n c w 1682 (some (.ref x) :: ls) (.ref x :: st) M := ok_r rfl rfl
set_option maxRecDepth 100000 in
theorem sK_1682 {l0 l1 l2 l3 : Option Value} {x : Int32} : ok d (mLk kk) n0 Q n c w 1682 (l0 :: l1 :: l2 :: l3 :: some (.int x) :: ls) st M = ok d (mLk kk) n0 Q n c w 1684 (l0 :: l1 :: l2 :: l3 :: some (.int x) :: ls) (.int x :: st) M := ok_r rfl rfl
set_option maxRecDepth 100000 in
theorem sK_1684 : ok d (mLk kk) n0 Q n c w 1684 ls st M = ok d (mLk kk) n0 Q n c w 1685 ls (.int 1 :: st) M := ok_r rfl (by rw [← ic_1]; rfl)
set_option maxRecDepth 100000 in
theorem sK_1685 {x z : Int32} : ok d (mLk kk) n0 Q n c w 1685 ls (.int z :: .int x :: st) M = ok d (mLk kk) n0 Q n c w 1686 ls (.int (x + z) :: st) M := ok_r rfl rfl
set_option maxRecDepth 100000 in
theorem sK_1686 {a : Nat} {i : Int32} : ok d (mLk kk) n0 Q n c w 1686 ls (.int i :: .ref a :: st) M = (am_in n M a 1 i ∧ ok d (mLk kk) n0 Q n c w 1687 ls (.int (gI M a i.toNatClampNeg) :: st) M) := ok_r rfl rfl
set_option maxRecDepth 100000 in
theorem sK_1687 {b : Nat} {v0 : Int32} {a0 : Int32} (hc : c + 0 ≤ 488 + 8 * kk) (hw : w + 0 ≤ 103327 + 64 * kk) : ok d (mLk kk) n0 Q n c w 1687 ls [.int a0, .ref b, .int v0] M = (am_ob n b 11 ∧ am_big d mX11_count [.ref b, .int a0] n M (kI fun x M' => ok d (mLk kk) n0 Q n c w 1690 ls (.int x :: .int v0 :: []) M')) := ok_vir (y := (mLk kk)) (y' := mX11_count) (pc := 1687) (k := 209) (ps := [1906, 1907, 1908, 110, 1909]) (c := c) (w := w) (st := [.int a0, .ref b, .int v0]) (as := [.ref b, .int a0]) (rest := [.int v0]) (b := b) rfl rfl rfl ⟨Nat.le_of_ble_eq_true rfl, Nat.le_of_ble_eq_true rfl, Nat.le_of_ble_eq_true rfl, hc, hw⟩ rfl rfl (am_contI (Or.inl rfl) rfl)
set_option maxRecDepth 100000 in
theorem sK_1690 {x z : Int32} : ok d (mLk kk) n0 Q n c w 1690 ls (.int z :: .int x :: st) M = ((x = z → ok d (mLk kk) n0 Q n c w 1695 ls st M) ∧ (¬ (x = z) → ok d (mLk kk) n0 Q n c w 1693 ls st M)) := ok_ico (pc := 1690) (off := 5) (k := .eq) rfl 1695 (by decide)
set_option maxRecDepth 100000 in
theorem sK_1693 : ok d (mLk kk) n0 Q n c w 1693 ls st M = ok d (mLk kk) n0 Q n c w 1694 ls (.int 0 :: st) M := ok_r rfl (by rw [← ic_0]; rfl)
set_option maxRecDepth 100000 in
theorem sK_1694 {x : Int32} (ha : am_ret (mLk kk) n0 n c w) : ok d (mLk kk) n0 Q n c w 1694 ls [.int x] M = ((x = 0 ∨ x = 1) ∧ Q (some (.int x)) M) := ok_reZ rfl rfl ha
set_option maxRecDepth 100000 in
theorem sK_1695 {l0 l1 l2 l3 : Option Value} {x : Int32} : ok d (mLk kk) n0 Q n c w 1695 (l0 :: l1 :: l2 :: l3 :: some (.int x) :: ls) st M = ok d (mLk kk) n0 Q n c w 1698 (l0 :: l1 :: l2 :: am_kl l3 :: some (.int (x + 6)) :: ls) st M := ok_inc (k := 4) rfl rfl ic_6 (Nat.le_of_ble_eq_true rfl) rfl rfl
set_option maxRecDepth 100000 in
theorem sK_1698 : ok d (mLk kk) n0 Q n c w 1698 ls st M = ok d (mLk kk) n0 Q n c w 23 ls st M := ok_got (pc := 1698) (off := (-1675)) rfl 23 (by decide)
set_option maxRecDepth 100000 in
theorem sK_1701 : ok d (mLk kk) n0 Q n c w 1701 ls st M = ok d (mLk kk) n0 Q n c w 1702 ls (.int 1 :: st) M := ok_r rfl (by rw [← ic_1]; rfl)
set_option maxRecDepth 100000 in
theorem sK_1702 {x : Int32} (ha : am_ret (mLk kk) n0 n c w) : ok d (mLk kk) n0 Q n c w 1702 ls [.int x] M = ((x = 0 ∨ x = 1) ∧ Q (some (.int x)) M) := ok_reZ rfl rfl ha
end
