section
variable {M : am_M} {sc : Nat → Int32} {kk c w i len : Nat} {l5 l6 : Option Value} {Q : am_Q}
theorem L_stuck (hI : IV sc M) (h1000 : sc 1000 = nI len) (hl : len ≤ 384) (hj : i + 6 ≤ len) (hc : c ≤ 488 + 8 * kk) (hw : w ≤ 103327 + 64 * kk) (H : ∀ M', IV sc M' → ok 40 (mLk kk) 0 Q 488 c w 1695 [some (.ref 2000000), some (.ref 0), some (.ref 457), some (.ref 487), some (.int (nI i)), l5, l6] [] M') : ok 40 (mLk kk) 0 Q 488 c w 1354 [some (.ref 2000000), some (.ref 0), some (.ref 457), some (.ref 487), some (.int (nI i)), l5, l6] [] M := by
  have hs := hI.2.1
  obtain ⟨r, M1, M2, e1, e2, hs1, hI2⟩ := B_stuck (x := sc (i + 1)) hI
  have i1 := rdi hs h1000 hl (show i + 1 < len by omega)
  have j1 := rdi hs1 h1000 hl (show i + 1 < len by omega)
  have v1 := rdv hs (show i + 1 < 400 by omega)
  have u1 := rdv hs1 (show i + 1 < 400 by omega)
  have H1 := H M2 hI2
  simp (disch := (first | assumption | omega | decide)) only [sK_1354, sK_1355, sK_1356, sK_1358, sK_1359, sK_1360, sK_1361, sK_1364, sK_1365, sK_1366, sK_1368, sK_1369, sK_1370, sK_1371, sK_1374, kI_i, kL_l, kV_v, am_rv_s, am_kl_i, am_kl_r, am_kl_n, am_kl_l, true_and, and_true, and_self, true_or, or_true, implies_true, forall_const, not_true_eq_false, not_false_eq_true, false_implies, true_implies, if_true, if_false, Bool.true_eq_false, Bool.false_eq_true, ob_0, ob_457, nI_1, nI_2, nI_3, nI_q4, nI_q5, eq_self, i1, j1, v1, u1, e1, e2]
  exact H1
theorem L_team (hI : IV sc M) (h1000 : sc 1000 = nI len) (hl : len ≤ 384) (hj : i + 6 ≤ len) (hc : c ≤ 488 + 8 * kk) (hw : w ≤ 103327 + 64 * kk) (H : ∀ M', IV sc M' → ok 40 (mLk kk) 0 Q 488 c w 1695 [some (.ref 2000000), some (.ref 0), some (.ref 457), some (.ref 487), some (.int (nI i)), l5, l6] [] M') : ok 40 (mLk kk) 0 Q 488 c w 1379 [some (.ref 2000000), some (.ref 0), some (.ref 457), some (.ref 487), some (.int (nI i)), l5, l6] [] M := by
  have hs := hI.2.1
  obtain ⟨r, M1, M2, e1, e2, hs1, hI2⟩ := B_team  hI
  have H1 := H M2 hI2
  simp (disch := (first | assumption | omega | decide)) only [sK_1379, sK_1380, sK_1383, sK_1384, sK_1387, kI_i, kL_l, kV_v, am_rv_s, am_kl_i, am_kl_r, am_kl_n, am_kl_l, true_and, and_true, and_self, true_or, or_true, implies_true, forall_const, not_true_eq_false, not_false_eq_true, false_implies, true_implies, if_true, if_false, Bool.true_eq_false, Bool.false_eq_true, ob_0, ob_457, nI_1, nI_2, nI_3, nI_q4, nI_q5, eq_self, e1, e2]
  exact H1
theorem L_lesson (hI : IV sc M) (h1000 : sc 1000 = nI len) (hl : len ≤ 384) (hj : i + 6 ≤ len) (hc : c ≤ 488 + 8 * kk) (hw : w ≤ 103327 + 64 * kk) (H : ∀ M', IV sc M' → ok 40 (mLk kk) 0 Q 488 c w 1695 [some (.ref 2000000), some (.ref 0), some (.ref 457), some (.ref 487), some (.int (nI i)), l5, l6] [] M') : ok 40 (mLk kk) 0 Q 488 c w 1392 [some (.ref 2000000), some (.ref 0), some (.ref 457), some (.ref 487), some (.int (nI i)), l5, l6] [] M := by
  have hs := hI.2.1
  obtain ⟨r, M1, M2, e1, e2, hs1, hI2⟩ := B_lesson (y := sc (i + 1)) hI
  have i1 := rdi hs h1000 hl (show i + 1 < len by omega)
  have j1 := rdi hs1 h1000 hl (show i + 1 < len by omega)
  have v1 := rdv hs (show i + 1 < 400 by omega)
  have u1 := rdv hs1 (show i + 1 < 400 by omega)
  have H1 := H M2 hI2
  simp (disch := (first | assumption | omega | decide)) only [sK_1392, sK_1393, sK_1394, sK_1396, sK_1397, sK_1398, sK_1399, sK_1402, sK_1403, sK_1404, sK_1406, sK_1407, sK_1408, sK_1409, sK_1412, kI_i, kL_l, kV_v, am_rv_s, am_kl_i, am_kl_r, am_kl_n, am_kl_l, true_and, and_true, and_self, true_or, or_true, implies_true, forall_const, not_true_eq_false, not_false_eq_true, false_implies, true_implies, if_true, if_false, Bool.true_eq_false, Bool.false_eq_true, ob_0, ob_457, nI_1, nI_2, nI_3, nI_q4, nI_q5, eq_self, i1, j1, v1, u1, e1, e2]
  exact H1
theorem L_game (hI : IV sc M) (h1000 : sc 1000 = nI len) (hl : len ≤ 384) (hj : i + 6 ≤ len) (hc : c ≤ 488 + 8 * kk) (hw : w ≤ 103327 + 64 * kk) (H : ∀ M', IV sc M' → ok 40 (mLk kk) 0 Q 488 c w 1695 [some (.ref 2000000), some (.ref 0), some (.ref 457), some (.ref 487), some (.int (nI i)), l5, l6] [] M') : ok 40 (mLk kk) 0 Q 488 c w 1417 [some (.ref 2000000), some (.ref 0), some (.ref 457), some (.ref 487), some (.int (nI i)), l5, l6] [] M := by
  have hs := hI.2.1
  obtain ⟨r, M1, M2, e1, e2, hs1, hI2⟩ := B_game (w := sc (i + 1)) hI
  have i1 := rdi hs h1000 hl (show i + 1 < len by omega)
  have j1 := rdi hs1 h1000 hl (show i + 1 < len by omega)
  have v1 := rdv hs (show i + 1 < 400 by omega)
  have u1 := rdv hs1 (show i + 1 < 400 by omega)
  have H1 := H M2 hI2
  simp (disch := (first | assumption | omega | decide)) only [sK_1417, sK_1418, sK_1419, sK_1421, sK_1422, sK_1423, sK_1424, sK_1427, sK_1428, sK_1429, sK_1431, sK_1432, sK_1433, sK_1434, sK_1437, kI_i, kL_l, kV_v, am_rv_s, am_kl_i, am_kl_r, am_kl_n, am_kl_l, true_and, and_true, and_self, true_or, or_true, implies_true, forall_const, not_true_eq_false, not_false_eq_true, false_implies, true_implies, if_true, if_false, Bool.true_eq_false, Bool.false_eq_true, ob_0, ob_457, nI_1, nI_2, nI_3, nI_q4, nI_q5, eq_self, i1, j1, v1, u1, e1, e2]
  exact H1
theorem L_odds (hI : IV sc M) (h1000 : sc 1000 = nI len) (hl : len ≤ 384) (hj : i + 6 ≤ len) (hc : c ≤ 488 + 8 * kk) (hw : w ≤ 103327 + 64 * kk) (H : ∀ M', IV sc M' → ok 40 (mLk kk) 0 Q 488 c w 1695 [some (.ref 2000000), some (.ref 0), some (.ref 457), some (.ref 487), some (.int (nI i)), l5, l6] [] M') : ok 40 (mLk kk) 0 Q 488 c w 1442 [some (.ref 2000000), some (.ref 0), some (.ref 457), some (.ref 487), some (.int (nI i)), l5, l6] [] M := by
  have hs := hI.2.1
  obtain ⟨r, M1, M2, e1, e2, hs1, hI2⟩ := B_odds (y := sc (i + 1)) (v := sc (i + 2)) hI
  have i1 := rdi hs h1000 hl (show i + 1 < len by omega)
  have j1 := rdi hs1 h1000 hl (show i + 1 < len by omega)
  have v1 := rdv hs (show i + 1 < 400 by omega)
  have u1 := rdv hs1 (show i + 1 < 400 by omega)
  have i2 := rdi hs h1000 hl (show i + 2 < len by omega)
  have j2 := rdi hs1 h1000 hl (show i + 2 < len by omega)
  have v2 := rdv hs (show i + 2 < 400 by omega)
  have u2 := rdv hs1 (show i + 2 < 400 by omega)
  have H1 := H M2 hI2
  simp (disch := (first | assumption | omega | decide)) only [sK_1442, sK_1443, sK_1444, sK_1446, sK_1447, sK_1448, sK_1449, sK_1450, sK_1452, sK_1453, sK_1454, sK_1455, sK_1458, sK_1459, sK_1460, sK_1462, sK_1463, sK_1464, sK_1465, sK_1466, sK_1468, sK_1469, sK_1470, sK_1471, sK_1474, kI_i, kL_l, kV_v, am_rv_s, am_kl_i, am_kl_r, am_kl_n, am_kl_l, true_and, and_true, and_self, true_or, or_true, implies_true, forall_const, not_true_eq_false, not_false_eq_true, false_implies, true_implies, if_true, if_false, Bool.true_eq_false, Bool.false_eq_true, ob_0, ob_457, nI_1, nI_2, nI_3, nI_q4, nI_q5, eq_self, i1, j1, v1, u1, i2, j2, v2, u2, e1, e2]
  exact H1
theorem L_seen (hI : IV sc M) (h1000 : sc 1000 = nI len) (hl : len ≤ 384) (hj : i + 6 ≤ len) (hc : c ≤ 488 + 8 * kk) (hw : w ≤ 103327 + 64 * kk) (H : ∀ M', IV sc M' → ok 40 (mLk kk) 0 Q 488 c w 1695 [some (.ref 2000000), some (.ref 0), some (.ref 457), some (.ref 487), some (.int (nI i)), l5, l6] [] M') : ok 40 (mLk kk) 0 Q 488 c w 1479 [some (.ref 2000000), some (.ref 0), some (.ref 457), some (.ref 487), some (.int (nI i)), l5, l6] [] M := by
  have hs := hI.2.1
  by_cases z : sc (i + 3) = 0
  · obtain ⟨r, M1, M2, e1, e2, hs1, hI2⟩ := B_seen (so := sc (i + 1)) (v := sc (i + 2)) (b := false) hI
    rw [bz_f] at e1 e2
    have i1 := rdi hs h1000 hl (show i + 1 < len by omega)
    have j1 := rdi hs1 h1000 hl (show i + 1 < len by omega)
    have v1 := rdv hs (show i + 1 < 400 by omega)
    have u1 := rdv hs1 (show i + 1 < 400 by omega)
    have i2 := rdi hs h1000 hl (show i + 2 < len by omega)
    have j2 := rdi hs1 h1000 hl (show i + 2 < len by omega)
    have v2 := rdv hs (show i + 2 < 400 by omega)
    have u2 := rdv hs1 (show i + 2 < 400 by omega)
    have i3 := rdi hs h1000 hl (show i + 3 < len by omega)
    have j3 := rdi hs1 h1000 hl (show i + 3 < len by omega)
    have v3 := rdv hs (show i + 3 < 400 by omega)
    have u3 := rdv hs1 (show i + 3 < 400 by omega)
    have H1 := H M2 hI2
    simp (disch := (first | assumption | omega | decide)) only [sK_1479, sK_1480, sK_1481, sK_1483, sK_1484, sK_1485, sK_1486, sK_1487, sK_1489, sK_1490, sK_1491, sK_1492, sK_1493, sK_1495, sK_1496, sK_1497, sK_1498, sK_1501, sK_1502, sK_1505, sK_1506, sK_1509, sK_1510, sK_1511, sK_1513, sK_1514, sK_1515, sK_1516, sK_1517, sK_1519, sK_1520, sK_1521, sK_1522, sK_1523, sK_1525, sK_1526, sK_1527, sK_1528, sK_1531, sK_1532, sK_1535, sK_1536, sK_1539, kI_i, kL_l, kV_v, am_rv_s, am_kl_i, am_kl_r, am_kl_n, am_kl_l, true_and, and_true, and_self, true_or, or_true, implies_true, forall_const, not_true_eq_false, not_false_eq_true, false_implies, true_implies, if_true, if_false, Bool.true_eq_false, Bool.false_eq_true, ob_0, ob_457, nI_1, nI_2, nI_3, nI_q4, nI_q5, eq_self, i1, j1, v1, u1, i2, j2, v2, u2, i3, j3, v3, u3, z, e1, e2]
    exact H1
  · obtain ⟨r, M1, M2, e1, e2, hs1, hI2⟩ := B_seen (so := sc (i + 1)) (v := sc (i + 2)) (b := true) hI
    rw [bz_t] at e1 e2
    have i1 := rdi hs h1000 hl (show i + 1 < len by omega)
    have j1 := rdi hs1 h1000 hl (show i + 1 < len by omega)
    have v1 := rdv hs (show i + 1 < 400 by omega)
    have u1 := rdv hs1 (show i + 1 < 400 by omega)
    have i2 := rdi hs h1000 hl (show i + 2 < len by omega)
    have j2 := rdi hs1 h1000 hl (show i + 2 < len by omega)
    have v2 := rdv hs (show i + 2 < 400 by omega)
    have u2 := rdv hs1 (show i + 2 < 400 by omega)
    have i3 := rdi hs h1000 hl (show i + 3 < len by omega)
    have j3 := rdi hs1 h1000 hl (show i + 3 < len by omega)
    have v3 := rdv hs (show i + 3 < 400 by omega)
    have u3 := rdv hs1 (show i + 3 < 400 by omega)
    have H1 := H M2 hI2
    simp (disch := (first | assumption | omega | decide)) only [sK_1479, sK_1480, sK_1481, sK_1483, sK_1484, sK_1485, sK_1486, sK_1487, sK_1489, sK_1490, sK_1491, sK_1492, sK_1493, sK_1495, sK_1496, sK_1497, sK_1498, sK_1501, sK_1502, sK_1505, sK_1506, sK_1509, sK_1510, sK_1511, sK_1513, sK_1514, sK_1515, sK_1516, sK_1517, sK_1519, sK_1520, sK_1521, sK_1522, sK_1523, sK_1525, sK_1526, sK_1527, sK_1528, sK_1531, sK_1532, sK_1535, sK_1536, sK_1539, kI_i, kL_l, kV_v, am_rv_s, am_kl_i, am_kl_r, am_kl_n, am_kl_l, true_and, and_true, and_self, true_or, or_true, implies_true, forall_const, not_true_eq_false, not_false_eq_true, false_implies, true_implies, if_true, if_false, Bool.true_eq_false, Bool.false_eq_true, ob_0, ob_457, nI_1, nI_2, nI_3, nI_q4, nI_q5, eq_self, i1, j1, v1, u1, i2, j2, v2, u2, i3, j3, v3, u3, z, e1, e2]
    exact H1
theorem L_args (hI : IV sc M) (h1000 : sc 1000 = nI len) (hl : len ≤ 384) (hj : i + 6 ≤ len) (hc : c ≤ 488 + 8 * kk) (hw : w ≤ 103327 + 64 * kk) (H : ∀ M', IV sc M' → ok 40 (mLk kk) 0 Q 488 c w 1695 [some (.ref 2000000), some (.ref 0), some (.ref 457), some (.ref 487), some (.int (nI i)), l5, l6] [] M') : ok 40 (mLk kk) 0 Q 488 c w 1544 [some (.ref 2000000), some (.ref 0), some (.ref 457), some (.ref 487), some (.int (nI i)), l5, l6] [] M := by
  have hs := hI.2.1
  obtain ⟨r, M1, M2, e1, e2, hs1, hI2⟩ := B_args (so := sc (i + 1)) hI
  have i1 := rdi hs h1000 hl (show i + 1 < len by omega)
  have j1 := rdi hs1 h1000 hl (show i + 1 < len by omega)
  have v1 := rdv hs (show i + 1 < 400 by omega)
  have u1 := rdv hs1 (show i + 1 < 400 by omega)
  have H1 := H M2 hI2
  simp (disch := (first | assumption | omega | decide)) only [sK_1544, sK_1545, sK_1546, sK_1548, sK_1549, sK_1550, sK_1551, sK_1554, sK_1555, sK_1556, sK_1558, sK_1559, sK_1560, sK_1561, sK_1564, kI_i, kL_l, kV_v, am_rv_s, am_kl_i, am_kl_r, am_kl_n, am_kl_l, true_and, and_true, and_self, true_or, or_true, implies_true, forall_const, not_true_eq_false, not_false_eq_true, false_implies, true_implies, if_true, if_false, Bool.true_eq_false, Bool.false_eq_true, ob_0, ob_457, nI_1, nI_2, nI_3, nI_q4, nI_q5, eq_self, i1, j1, v1, u1, e1, e2]
  exact H1
theorem L_ask (hI : IV sc M) (h1000 : sc 1000 = nI len) (hl : len ≤ 384) (hj : i + 6 ≤ len) (hc : c ≤ 488 + 8 * kk) (hw : w ≤ 103327 + 64 * kk) (H : ∀ M', IV sc M' → ok 40 (mLk kk) 0 Q 488 c w 1695 [some (.ref 2000000), some (.ref 0), some (.ref 457), some (.ref 487), some (.int (nI i)), l5, l6] [] M') : ok 40 (mLk kk) 0 Q 488 c w 1569 [some (.ref 2000000), some (.ref 0), some (.ref 457), some (.ref 487), some (.int (nI i)), l5, l6] [] M := by
  have hs := hI.2.1
  obtain ⟨r, M1, M2, e1, e2, hs1, hI2⟩ := B_ask (so := sc (i + 1)) hI
  have i1 := rdi hs h1000 hl (show i + 1 < len by omega)
  have j1 := rdi hs1 h1000 hl (show i + 1 < len by omega)
  have v1 := rdv hs (show i + 1 < 400 by omega)
  have u1 := rdv hs1 (show i + 1 < 400 by omega)
  have H1 := H M2 hI2
  simp (disch := (first | assumption | omega | decide)) only [sK_1569, sK_1570, sK_1571, sK_1573, sK_1574, sK_1575, sK_1576, sK_1579, sK_1580, sK_1581, sK_1583, sK_1584, sK_1585, sK_1586, sK_1589, kI_i, kL_l, kV_v, am_rv_s, am_kl_i, am_kl_r, am_kl_n, am_kl_l, true_and, and_true, and_self, true_or, or_true, implies_true, forall_const, not_true_eq_false, not_false_eq_true, false_implies, true_implies, if_true, if_false, Bool.true_eq_false, Bool.false_eq_true, ob_0, ob_457, nI_1, nI_2, nI_3, nI_q4, nI_q5, eq_self, i1, j1, v1, u1, e1, e2]
  exact H1
theorem L_upon (hI : IV sc M) (h1000 : sc 1000 = nI len) (hl : len ≤ 384) (hj : i + 6 ≤ len) (hc : c ≤ 488 + 8 * kk) (hw : w ≤ 103327 + 64 * kk) (H : ∀ M', IV sc M' → ok 40 (mLk kk) 0 Q 488 c w 1695 [some (.ref 2000000), some (.ref 0), some (.ref 457), some (.ref 487), some (.int (nI i)), l5, l6] [] M') : ok 40 (mLk kk) 0 Q 488 c w 1594 [some (.ref 2000000), some (.ref 0), some (.ref 457), some (.ref 487), some (.int (nI i)), l5, l6] [] M := by
  have hs := hI.2.1
  obtain ⟨r, M1, M2, e1, e2, hs1, hI2⟩ := B_upon (y := sc (i + 1)) hI
  have i1 := rdi hs h1000 hl (show i + 1 < len by omega)
  have j1 := rdi hs1 h1000 hl (show i + 1 < len by omega)
  have v1 := rdv hs (show i + 1 < 400 by omega)
  have u1 := rdv hs1 (show i + 1 < 400 by omega)
  have H1 := H M2 hI2
  simp (disch := (first | assumption | omega | decide)) only [sK_1594, sK_1595, sK_1596, sK_1598, sK_1599, sK_1600, sK_1601, sK_1604, sK_1605, sK_1606, sK_1608, sK_1609, sK_1610, sK_1611, sK_1614, kI_i, kL_l, kV_v, am_rv_s, am_kl_i, am_kl_r, am_kl_n, am_kl_l, true_and, and_true, and_self, true_or, or_true, implies_true, forall_const, not_true_eq_false, not_false_eq_true, false_implies, true_implies, if_true, if_false, Bool.true_eq_false, Bool.false_eq_true, ob_0, ob_457, nI_1, nI_2, nI_3, nI_q4, nI_q5, eq_self, i1, j1, v1, u1, e1, e2]
  exact H1
theorem L_all (hI : IV sc M) (h1000 : sc 1000 = nI len) (hl : len ≤ 384) (hj : i + 6 ≤ len) (hc : c ≤ 488 + 8 * kk) (hw : w ≤ 103327 + 64 * kk) (H : ∀ M', IV sc M' → ok 40 (mLk kk) 0 Q 488 c w 1695 [some (.ref 2000000), some (.ref 0), some (.ref 457), some (.ref 487), some (.int (nI i)), l5, l6] [] M') : ok 40 (mLk kk) 0 Q 488 c w 1619 [some (.ref 2000000), some (.ref 0), some (.ref 457), some (.ref 487), some (.int (nI i)), l5, l6] [] M := by
  have hs := hI.2.1
  obtain ⟨r, M1, M2, e1, e2, hs1, hI2⟩ := B_all (v := sc (i + 1)) hI
  have i1 := rdi hs h1000 hl (show i + 1 < len by omega)
  have j1 := rdi hs1 h1000 hl (show i + 1 < len by omega)
  have v1 := rdv hs (show i + 1 < 400 by omega)
  have u1 := rdv hs1 (show i + 1 < 400 by omega)
  have H1 := H M2 hI2
  simp (disch := (first | assumption | omega | decide)) only [sK_1619, sK_1620, sK_1621, sK_1623, sK_1624, sK_1625, sK_1626, sK_1629, sK_1630, sK_1631, sK_1633, sK_1634, sK_1635, sK_1636, sK_1639, kI_i, kL_l, kV_v, am_rv_s, am_kl_i, am_kl_r, am_kl_n, am_kl_l, true_and, and_true, and_self, true_or, or_true, implies_true, forall_const, not_true_eq_false, not_false_eq_true, false_implies, true_implies, if_true, if_false, Bool.true_eq_false, Bool.false_eq_true, ob_0, ob_457, nI_1, nI_2, nI_3, nI_q4, nI_q5, eq_self, i1, j1, v1, u1, e1, e2]
  exact H1
theorem L_image (hI : IV sc M) (h1000 : sc 1000 = nI len) (hl : len ≤ 384) (hj : i + 6 ≤ len) (hc : c ≤ 488 + 8 * kk) (hw : w ≤ 103327 + 64 * kk) (H : ∀ M', IV sc M' → ok 40 (mLk kk) 0 Q 488 c w 1695 [some (.ref 2000000), some (.ref 0), some (.ref 457), some (.ref 487), some (.int (nI i)), l5, l6] [] M') : ok 40 (mLk kk) 0 Q 488 c w 1644 [some (.ref 2000000), some (.ref 0), some (.ref 457), some (.ref 487), some (.int (nI i)), l5, l6] [] M := by
  have hs := hI.2.1
  obtain ⟨r, M1, M2, e1, e2, hs1, hI2⟩ := B_image  hI
  have H1 := H M2 hI2
  simp (disch := (first | assumption | omega | decide)) only [sK_1644, sK_1645, sK_1648, sK_1649, sK_1652, kI_i, kL_l, kV_v, am_rv_s, am_kl_i, am_kl_r, am_kl_n, am_kl_l, true_and, and_true, and_self, true_or, or_true, implies_true, forall_const, not_true_eq_false, not_false_eq_true, false_implies, true_implies, if_true, if_false, Bool.true_eq_false, Bool.false_eq_true, ob_0, ob_457, nI_1, nI_2, nI_3, nI_q4, nI_q5, eq_self, e1, e2]
  exact H1
theorem L_back (hI : IV sc M) (h1000 : sc 1000 = nI len) (hl : len ≤ 384) (hj : i + 6 ≤ len) (hc : c ≤ 488 + 8 * kk) (hw : w ≤ 103327 + 64 * kk) (H : ∀ M', IV sc M' → ok 40 (mLk kk) 0 Q 488 c w 1695 [some (.ref 2000000), some (.ref 0), some (.ref 457), some (.ref 487), some (.int (nI i)), l5, l6] [] M') : ok 40 (mLk kk) 0 Q 488 c w 1657 [some (.ref 2000000), some (.ref 0), some (.ref 457), some (.ref 487), some (.int (nI i)), l5, l6] [] M := by
  have hs := hI.2.1
  obtain ⟨r, M1, M2, e1, e2, hs1, hI2⟩ := B_back  hI
  have H1 := H M2 hI2
  simp (disch := (first | assumption | omega | decide)) only [sK_1657, sK_1658, sK_1661, sK_1662, sK_1665, kI_i, kL_l, kV_v, am_rv_s, am_kl_i, am_kl_r, am_kl_n, am_kl_l, true_and, and_true, and_self, true_or, or_true, implies_true, forall_const, not_true_eq_false, not_false_eq_true, false_implies, true_implies, if_true, if_false, Bool.true_eq_false, Bool.false_eq_true, ob_0, ob_457, nI_1, nI_2, nI_3, nI_q4, nI_q5, eq_self, e1, e2]
  exact H1
theorem L_count (hI : IV sc M) (h1000 : sc 1000 = nI len) (hl : len ≤ 384) (hj : i + 6 ≤ len) (hc : c ≤ 488 + 8 * kk) (hw : w ≤ 103327 + 64 * kk) (H : ∀ M', IV sc M' → ok 40 (mLk kk) 0 Q 488 c w 1695 [some (.ref 2000000), some (.ref 0), some (.ref 457), some (.ref 487), some (.int (nI i)), l5, l6] [] M') : ok 40 (mLk kk) 0 Q 488 c w 1670 [some (.ref 2000000), some (.ref 0), some (.ref 457), some (.ref 487), some (.int (nI i)), l5, l6] [] M := by
  have hs := hI.2.1
  obtain ⟨r, M1, M2, e1, e2, hs1, hI2⟩ := B_count (v := sc (i + 1)) hI
  have i1 := rdi hs h1000 hl (show i + 1 < len by omega)
  have j1 := rdi hs1 h1000 hl (show i + 1 < len by omega)
  have v1 := rdv hs (show i + 1 < 400 by omega)
  have u1 := rdv hs1 (show i + 1 < 400 by omega)
  have H1 := H M2 hI2
  simp (disch := (first | assumption | omega | decide)) only [sK_1670, sK_1671, sK_1672, sK_1674, sK_1675, sK_1676, sK_1677, sK_1680, sK_1681, sK_1682, sK_1684, sK_1685, sK_1686, sK_1687, sK_1690, kI_i, kL_l, kV_v, am_rv_s, am_kl_i, am_kl_r, am_kl_n, am_kl_l, true_and, and_true, and_self, true_or, or_true, implies_true, forall_const, not_true_eq_false, not_false_eq_true, false_implies, true_implies, if_true, if_false, Bool.true_eq_false, Bool.false_eq_true, ob_0, ob_457, nI_1, nI_2, nI_3, nI_q4, nI_q5, eq_self, i1, j1, v1, u1, e1, e2]
  exact H1
end
