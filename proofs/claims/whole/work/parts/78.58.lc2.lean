section
variable {M : am_M} {sc : Nat → Int32} {kk c w i len : Nat} {l5 l6 : Option Value} {Q : am_Q}
theorem L_undo (hI : IV sc M) (h1000 : sc 1000 = nI len) (hl : len ≤ 384) (hj : i + 6 ≤ len) (hc : c ≤ 488 + 8 * kk) (hw : w ≤ 103327 + 64 * kk) (H : ∀ M', IV sc M' → ok 40 (mLk kk) 0 Q 488 c w 1695 [some (.ref 2000000), some (.ref 0), some (.ref 457), some (.ref 487), some (.int (nI i)), l5, l6] [] M') : ok 40 (mLk kk) 0 Q 488 c w 827 [some (.ref 2000000), some (.ref 0), some (.ref 457), some (.ref 487), some (.int (nI i)), l5, l6] [] M := by
  have hs := hI.2.1
  obtain ⟨r, M1, M2, e1, e2, hs1, hI2⟩ := B_undo  hI
  have H1 := H M2 hI2
  simp (disch := (first | assumption | omega | decide)) only [sK_827, sK_828, sK_831, sK_832, sK_835, kI_i, kL_l, kV_v, am_rv_s, am_kl_i, am_kl_r, am_kl_n, am_kl_l, true_and, and_true, and_self, true_or, or_true, implies_true, forall_const, not_true_eq_false, not_false_eq_true, false_implies, true_implies, if_true, if_false, Bool.true_eq_false, Bool.false_eq_true, ob_0, ob_457, nI_1, nI_2, nI_3, nI_q4, nI_q5, eq_self, e1, e2]
  exact H1
theorem L_log (hI : IV sc M) (h1000 : sc 1000 = nI len) (hl : len ≤ 384) (hj : i + 6 ≤ len) (hc : c ≤ 488 + 8 * kk) (hw : w ≤ 103327 + 64 * kk) (H : ∀ M', IV sc M' → ok 40 (mLk kk) 0 Q 488 c w 1695 [some (.ref 2000000), some (.ref 0), some (.ref 457), some (.ref 487), some (.int (nI i)), l5, l6] [] M') : ok 40 (mLk kk) 0 Q 488 c w 840 [some (.ref 2000000), some (.ref 0), some (.ref 457), some (.ref 487), some (.int (nI i)), l5, l6] [] M := by
  have hs := hI.2.1
  obtain ⟨r, M1, M2, e1, e2, hs1, hI2⟩ := B_log (y := sc (i + 1)) (w := sc (i + 2)) hI
  have i1 := rdi hs h1000 hl (show i + 1 < len by omega)
  have j1 := rdi hs1 h1000 hl (show i + 1 < len by omega)
  have v1 := rdv hs (show i + 1 < 400 by omega)
  have u1 := rdv hs1 (show i + 1 < 400 by omega)
  have i2 := rdi hs h1000 hl (show i + 2 < len by omega)
  have j2 := rdi hs1 h1000 hl (show i + 2 < len by omega)
  have v2 := rdv hs (show i + 2 < 400 by omega)
  have u2 := rdv hs1 (show i + 2 < 400 by omega)
  have H1 := H M2 hI2
  simp (disch := (first | assumption | omega | decide)) only [sK_840, sK_841, sK_842, sK_844, sK_845, sK_846, sK_847, sK_848, sK_850, sK_851, sK_852, sK_853, sK_856, sK_857, sK_858, sK_860, sK_861, sK_862, sK_863, sK_864, sK_866, sK_867, sK_868, sK_869, sK_872, kI_i, kL_l, kV_v, am_rv_s, am_kl_i, am_kl_r, am_kl_n, am_kl_l, true_and, and_true, and_self, true_or, or_true, implies_true, forall_const, not_true_eq_false, not_false_eq_true, false_implies, true_implies, if_true, if_false, Bool.true_eq_false, Bool.false_eq_true, ob_0, ob_457, nI_1, nI_2, nI_3, nI_q4, nI_q5, eq_self, i1, j1, v1, u1, i2, j2, v2, u2, e1, e2]
  exact H1
theorem L_step (hI : IV sc M) (h1000 : sc 1000 = nI len) (hl : len ≤ 384) (hj : i + 6 ≤ len) (hc : c ≤ 488 + 8 * kk) (hw : w ≤ 103327 + 64 * kk) (H : ∀ M', IV sc M' → ok 40 (mLk kk) 0 Q 488 c w 1695 [some (.ref 2000000), some (.ref 0), some (.ref 457), some (.ref 487), some (.int (nI i)), l5, l6] [] M') : ok 40 (mLk kk) 0 Q 488 c w 877 [some (.ref 2000000), some (.ref 0), some (.ref 457), some (.ref 487), some (.int (nI i)), l5, l6] [] M := by
  have hs := hI.2.1
  obtain ⟨r, M1, M2, e1, e2, hs1, hI2⟩ := B_step (k := sc (i + 1)) (y := sc (i + 2)) (w := sc (i + 3)) hI
  have i1 := rdi hs h1000 hl (show i + 1 < len by omega)
  have j1 := rdi hs1 h1000 hl (show i + 1 < len by omega)
  have v1 := rdv hs (show i + 1 < 400 by omega)
  have u1 := rdv hs1 (show i + 1 < 400 by omega)
  have i2 := rdi hs h1000 hl (show i + 2 < len by omega)
  have j2 := rdi hs1 h1000 hl (show i + 2 < len by omega)
  have v2 := rdv hs (show i + 2 < 400 by omega)
  have u2 := rdv hs1 (show i + 2 < 400 by omega)
  have i3 := rdi hs h1000 hl (show i + 3 < len by omega)
  have j3 := rdi hs1 h1000 hl (show i + 3 < len by omega)
  have v3 := rdv hs (show i + 3 < 400 by omega)
  have u3 := rdv hs1 (show i + 3 < 400 by omega)
  have H1 := H M2 hI2
  simp (disch := (first | assumption | omega | decide)) only [sK_877, sK_878, sK_879, sK_881, sK_882, sK_883, sK_884, sK_885, sK_887, sK_888, sK_889, sK_890, sK_891, sK_893, sK_894, sK_895, sK_896, sK_899, sK_900, sK_901, sK_903, sK_904, sK_905, sK_906, sK_907, sK_909, sK_910, sK_911, sK_912, sK_913, sK_915, sK_916, sK_917, sK_918, sK_921, kI_i, kL_l, kV_v, am_rv_s, am_kl_i, am_kl_r, am_kl_n, am_kl_l, true_and, and_true, and_self, true_or, or_true, implies_true, forall_const, not_true_eq_false, not_false_eq_true, false_implies, true_implies, if_true, if_false, Bool.true_eq_false, Bool.false_eq_true, ob_0, ob_457, nI_1, nI_2, nI_3, nI_q4, nI_q5, eq_self, i1, j1, v1, u1, i2, j2, v2, u2, i3, j3, v3, u3, e1, e2]
  exact H1
theorem L_run (hI : IV sc M) (h1000 : sc 1000 = nI len) (hl : len ≤ 384) (hj : i + 6 ≤ len) (hc : c ≤ 488 + 8 * kk) (hw : w ≤ 103327 + 64 * kk) (H : ∀ M', IV sc M' → ok 40 (mLk kk) 0 Q 488 c w 1695 [some (.ref 2000000), some (.ref 0), some (.ref 457), some (.ref 487), some (.int (nI i)), l5, l6] [] M') : ok 40 (mLk kk) 0 Q 488 c w 926 [some (.ref 2000000), some (.ref 0), some (.ref 457), some (.ref 487), some (.int (nI i)), l5, l6] [] M := by
  have hs := hI.2.1
  obtain ⟨r, M1, M2, e1, e2, hs1, hI2⟩ := B_run (k := sc (i + 1)) (w := sc (i + 2)) hI
  have i1 := rdi hs h1000 hl (show i + 1 < len by omega)
  have j1 := rdi hs1 h1000 hl (show i + 1 < len by omega)
  have v1 := rdv hs (show i + 1 < 400 by omega)
  have u1 := rdv hs1 (show i + 1 < 400 by omega)
  have i2 := rdi hs h1000 hl (show i + 2 < len by omega)
  have j2 := rdi hs1 h1000 hl (show i + 2 < len by omega)
  have v2 := rdv hs (show i + 2 < 400 by omega)
  have u2 := rdv hs1 (show i + 2 < 400 by omega)
  have H1 := H M2 hI2
  simp (disch := (first | assumption | omega | decide)) only [sK_926, sK_927, sK_928, sK_930, sK_931, sK_932, sK_933, sK_934, sK_936, sK_937, sK_938, sK_939, sK_942, sK_943, sK_944, sK_946, sK_947, sK_948, sK_949, sK_950, sK_952, sK_953, sK_954, sK_955, sK_958, kI_i, kL_l, kV_v, am_rv_s, am_kl_i, am_kl_r, am_kl_n, am_kl_l, true_and, and_true, and_self, true_or, or_true, implies_true, forall_const, not_true_eq_false, not_false_eq_true, false_implies, true_implies, if_true, if_false, Bool.true_eq_false, Bool.false_eq_true, ob_0, ob_457, nI_1, nI_2, nI_3, nI_q4, nI_q5, eq_self, i1, j1, v1, u1, i2, j2, v2, u2, e1, e2]
  exact H1
theorem L_perform (hI : IV sc M) (h1000 : sc 1000 = nI len) (hl : len ≤ 384) (hj : i + 6 ≤ len) (hc : c ≤ 488 + 8 * kk) (hw : w ≤ 103327 + 64 * kk) (H : ∀ M', IV sc M' → ok 40 (mLk kk) 0 Q 488 c w 1695 [some (.ref 2000000), some (.ref 0), some (.ref 457), some (.ref 487), some (.int (nI i)), l5, l6] [] M') : ok 40 (mLk kk) 0 Q 488 c w 963 [some (.ref 2000000), some (.ref 0), some (.ref 457), some (.ref 487), some (.int (nI i)), l5, l6] [] M := by
  have hs := hI.2.1
  obtain ⟨r, M1, M2, e1, e2, hs1, hI2⟩ := B_perform (k := sc (i + 1)) hI
  have i1 := rdi hs h1000 hl (show i + 1 < len by omega)
  have j1 := rdi hs1 h1000 hl (show i + 1 < len by omega)
  have v1 := rdv hs (show i + 1 < 400 by omega)
  have u1 := rdv hs1 (show i + 1 < 400 by omega)
  have H1 := H M2 hI2
  simp (disch := (first | assumption | omega | decide)) only [sK_963, sK_964, sK_965, sK_967, sK_968, sK_969, sK_970, sK_973, sK_974, sK_975, sK_977, sK_978, sK_979, sK_980, sK_983, kI_i, kL_l, kV_v, am_rv_s, am_kl_i, am_kl_r, am_kl_n, am_kl_l, true_and, and_true, and_self, true_or, or_true, implies_true, forall_const, not_true_eq_false, not_false_eq_true, false_implies, true_implies, if_true, if_false, Bool.true_eq_false, Bool.false_eq_true, ob_0, ob_457, nI_1, nI_2, nI_3, nI_q4, nI_q5, eq_self, i1, j1, v1, u1, e1, e2]
  exact H1
theorem L_alike (hI : IV sc M) (h1000 : sc 1000 = nI len) (hl : len ≤ 384) (hj : i + 6 ≤ len) (hc : c ≤ 488 + 8 * kk) (hw : w ≤ 103327 + 64 * kk) (H : ∀ M', IV sc M' → ok 40 (mLk kk) 0 Q 488 c w 1695 [some (.ref 2000000), some (.ref 0), some (.ref 457), some (.ref 487), some (.int (nI i)), l5, l6] [] M') : ok 40 (mLk kk) 0 Q 488 c w 988 [some (.ref 2000000), some (.ref 0), some (.ref 457), some (.ref 487), some (.int (nI i)), l5, l6] [] M := by
  have hs := hI.2.1
  obtain ⟨r, M1, M2, e1, e2, hs1, hI2⟩ := B_alike (k := sc (i + 1)) (o := sc (i + 2)) hI
  have i1 := rdi hs h1000 hl (show i + 1 < len by omega)
  have j1 := rdi hs1 h1000 hl (show i + 1 < len by omega)
  have v1 := rdv hs (show i + 1 < 400 by omega)
  have u1 := rdv hs1 (show i + 1 < 400 by omega)
  have i2 := rdi hs h1000 hl (show i + 2 < len by omega)
  have j2 := rdi hs1 h1000 hl (show i + 2 < len by omega)
  have v2 := rdv hs (show i + 2 < 400 by omega)
  have u2 := rdv hs1 (show i + 2 < 400 by omega)
  have H1 := H M2 hI2
  simp (disch := (first | assumption | omega | decide)) only [sK_988, sK_989, sK_990, sK_992, sK_993, sK_994, sK_995, sK_996, sK_998, sK_999, sK_1000, sK_1001, sK_1004, sK_1005, sK_1006, sK_1008, sK_1009, sK_1010, sK_1011, sK_1012, sK_1014, sK_1015, sK_1016, sK_1017, sK_1020, kI_i, kL_l, kV_v, am_rv_s, am_kl_i, am_kl_r, am_kl_n, am_kl_l, true_and, and_true, and_self, true_or, or_true, implies_true, forall_const, not_true_eq_false, not_false_eq_true, false_implies, true_implies, if_true, if_false, Bool.true_eq_false, Bool.false_eq_true, ob_0, ob_457, nI_1, nI_2, nI_3, nI_q4, nI_q5, eq_self, i1, j1, v1, u1, i2, j2, v2, u2, e1, e2]
  exact H1
theorem L_cost (hI : IV sc M) (h1000 : sc 1000 = nI len) (hl : len ≤ 384) (hj : i + 6 ≤ len) (hc : c ≤ 488 + 8 * kk) (hw : w ≤ 103327 + 64 * kk) (H : ∀ M', IV sc M' → ok 40 (mLk kk) 0 Q 488 c w 1695 [some (.ref 2000000), some (.ref 0), some (.ref 457), some (.ref 487), some (.int (nI i)), l5, l6] [] M') : ok 40 (mLk kk) 0 Q 488 c w 1025 [some (.ref 2000000), some (.ref 0), some (.ref 457), some (.ref 487), some (.int (nI i)), l5, l6] [] M := by
  have hs := hI.2.1
  obtain ⟨r, M1, M2, e1, e2, hs1, hI2⟩ := B_cost (y := sc (i + 1)) (n := sc (i + 2)) (b := sc (i + 3)) hI
  have i1 := rdi hs h1000 hl (show i + 1 < len by omega)
  have j1 := rdi hs1 h1000 hl (show i + 1 < len by omega)
  have v1 := rdv hs (show i + 1 < 400 by omega)
  have u1 := rdv hs1 (show i + 1 < 400 by omega)
  have i2 := rdi hs h1000 hl (show i + 2 < len by omega)
  have j2 := rdi hs1 h1000 hl (show i + 2 < len by omega)
  have v2 := rdv hs (show i + 2 < 400 by omega)
  have u2 := rdv hs1 (show i + 2 < 400 by omega)
  have i3 := rdi hs h1000 hl (show i + 3 < len by omega)
  have j3 := rdi hs1 h1000 hl (show i + 3 < len by omega)
  have v3 := rdv hs (show i + 3 < 400 by omega)
  have u3 := rdv hs1 (show i + 3 < 400 by omega)
  have H1 := H M2 hI2
  simp (disch := (first | assumption | omega | decide)) only [sK_1025, sK_1026, sK_1027, sK_1029, sK_1030, sK_1031, sK_1032, sK_1033, sK_1035, sK_1036, sK_1037, sK_1038, sK_1039, sK_1041, sK_1042, sK_1043, sK_1044, sK_1047, sK_1048, sK_1049, sK_1051, sK_1052, sK_1053, sK_1054, sK_1055, sK_1057, sK_1058, sK_1059, sK_1060, sK_1061, sK_1063, sK_1064, sK_1065, sK_1066, sK_1069, kI_i, kL_l, kV_v, am_rv_s, am_kl_i, am_kl_r, am_kl_n, am_kl_l, true_and, and_true, and_self, true_or, or_true, implies_true, forall_const, not_true_eq_false, not_false_eq_true, false_implies, true_implies, if_true, if_false, Bool.true_eq_false, Bool.false_eq_true, ob_0, ob_457, nI_1, nI_2, nI_3, nI_q4, nI_q5, eq_self, i1, j1, v1, u1, i2, j2, v2, u2, i3, j3, v3, u3, e1, e2]
  exact H1
theorem L_rows (hI : IV sc M) (h1000 : sc 1000 = nI len) (hl : len ≤ 384) (hj : i + 6 ≤ len) (hc : c ≤ 488 + 8 * kk) (hw : w ≤ 103327 + 64 * kk) (H : ∀ M', IV sc M' → ok 40 (mLk kk) 0 Q 488 c w 1695 [some (.ref 2000000), some (.ref 0), some (.ref 457), some (.ref 487), some (.int (nI i)), l5, l6] [] M') : ok 40 (mLk kk) 0 Q 488 c w 1074 [some (.ref 2000000), some (.ref 0), some (.ref 457), some (.ref 487), some (.int (nI i)), l5, l6] [] M := by
  have hs := hI.2.1
  obtain ⟨r, M1, M2, e1, e2, hs1, hI2⟩ := B_rows  hI
  have H1 := H M2 hI2
  simp (disch := (first | assumption | omega | decide)) only [sK_1074, sK_1075, sK_1078, sK_1079, sK_1082, kI_i, kL_l, kV_v, am_rv_s, am_kl_i, am_kl_r, am_kl_n, am_kl_l, true_and, and_true, and_self, true_or, or_true, implies_true, forall_const, not_true_eq_false, not_false_eq_true, false_implies, true_implies, if_true, if_false, Bool.true_eq_false, Bool.false_eq_true, ob_0, ob_457, nI_1, nI_2, nI_3, nI_q4, nI_q5, eq_self, e1, e2]
  exact H1
theorem L_row (hI : IV sc M) (h1000 : sc 1000 = nI len) (hl : len ≤ 384) (hj : i + 6 ≤ len) (hc : c ≤ 488 + 8 * kk) (hw : w ≤ 103327 + 64 * kk) (H : ∀ M', IV sc M' → ok 40 (mLk kk) 0 Q 488 c w 1695 [some (.ref 2000000), some (.ref 0), some (.ref 457), some (.ref 487), some (.int (nI i)), l5, l6] [] M') : ok 40 (mLk kk) 0 Q 488 c w 1087 [some (.ref 2000000), some (.ref 0), some (.ref 457), some (.ref 487), some (.int (nI i)), l5, l6] [] M := by
  have hs := hI.2.1
  obtain ⟨r, M1, M2, e1, e2, hs1, hI2⟩ := B_row (i := sc (i + 1)) (a := sc (i + 2)) hI
  have i1 := rdi hs h1000 hl (show i + 1 < len by omega)
  have j1 := rdi hs1 h1000 hl (show i + 1 < len by omega)
  have v1 := rdv hs (show i + 1 < 400 by omega)
  have u1 := rdv hs1 (show i + 1 < 400 by omega)
  have i2 := rdi hs h1000 hl (show i + 2 < len by omega)
  have j2 := rdi hs1 h1000 hl (show i + 2 < len by omega)
  have v2 := rdv hs (show i + 2 < 400 by omega)
  have u2 := rdv hs1 (show i + 2 < 400 by omega)
  have H1 := H M2 hI2
  simp (disch := (first | assumption | omega | decide)) only [sK_1087, sK_1088, sK_1089, sK_1091, sK_1092, sK_1093, sK_1094, sK_1095, sK_1097, sK_1098, sK_1099, sK_1100, sK_1103, sK_1104, sK_1105, sK_1107, sK_1108, sK_1109, sK_1110, sK_1111, sK_1113, sK_1114, sK_1115, sK_1116, sK_1119, kI_i, kL_l, kV_v, am_rv_s, am_kl_i, am_kl_r, am_kl_n, am_kl_l, true_and, and_true, and_self, true_or, or_true, implies_true, forall_const, not_true_eq_false, not_false_eq_true, false_implies, true_implies, if_true, if_false, Bool.true_eq_false, Bool.false_eq_true, ob_0, ob_457, nI_1, nI_2, nI_3, nI_q4, nI_q5, eq_self, i1, j1, v1, u1, i2, j2, v2, u2, e1, e2]
  exact H1
theorem L_drawn (hI : IV sc M) (h1000 : sc 1000 = nI len) (hl : len ≤ 384) (hj : i + 6 ≤ len) (hc : c ≤ 488 + 8 * kk) (hw : w ≤ 103327 + 64 * kk) (H : ∀ M', IV sc M' → ok 40 (mLk kk) 0 Q 488 c w 1695 [some (.ref 2000000), some (.ref 0), some (.ref 457), some (.ref 487), some (.int (nI i)), l5, l6] [] M') : ok 40 (mLk kk) 0 Q 488 c w 1124 [some (.ref 2000000), some (.ref 0), some (.ref 457), some (.ref 487), some (.int (nI i)), l5, l6] [] M := by
  have hs := hI.2.1
  obtain ⟨r, M1, M2, e1, e2, hs1, hI2⟩ := B_drawn (sd := lg2 (sc (i + 1)) (sc (i + 2))) (a := sc (i + 3)) hI
  have i1 := rdi hs h1000 hl (show i + 1 < len by omega)
  have j1 := rdi hs1 h1000 hl (show i + 1 < len by omega)
  have v1 := rdv hs (show i + 1 < 400 by omega)
  have u1 := rdv hs1 (show i + 1 < 400 by omega)
  have i2 := rdi hs h1000 hl (show i + 2 < len by omega)
  have j2 := rdi hs1 h1000 hl (show i + 2 < len by omega)
  have v2 := rdv hs (show i + 2 < 400 by omega)
  have u2 := rdv hs1 (show i + 2 < 400 by omega)
  have i3 := rdi hs h1000 hl (show i + 3 < len by omega)
  have j3 := rdi hs1 h1000 hl (show i + 3 < len by omega)
  have v3 := rdv hs (show i + 3 < 400 by omega)
  have u3 := rdv hs1 (show i + 3 < 400 by omega)
  have H1 := H M2 hI2
  simp (disch := (first | assumption | omega | decide)) only [sK_1124, sK_1125, sK_1126, sK_1128, sK_1129, sK_1130, sK_1131, sK_1132, sK_1134, sK_1135, sK_1136, sK_1138, sK_1139, sK_1140, sK_1141, sK_1142, sK_1145, sK_1146, sK_1147, sK_1148, sK_1150, sK_1151, sK_1152, sK_1153, sK_1156, sK_1157, sK_1158, sK_1160, sK_1161, sK_1162, sK_1163, sK_1164, sK_1166, sK_1167, sK_1168, sK_1170, sK_1171, sK_1172, sK_1173, sK_1174, sK_1177, sK_1178, sK_1179, sK_1180, sK_1182, sK_1183, sK_1184, sK_1185, sK_1188, kI_i, kL_l, kV_v, am_rv_s, am_kl_i, am_kl_r, am_kl_n, am_kl_l, true_and, and_true, and_self, true_or, or_true, implies_true, forall_const, not_true_eq_false, not_false_eq_true, false_implies, true_implies, if_true, if_false, Bool.true_eq_false, Bool.false_eq_true, ob_0, ob_457, nI_1, nI_2, nI_3, nI_q4, nI_q5, eq_self, i1, j1, v1, u1, i2, j2, v2, u2, i3, j3, v3, u3, lg2_e, e1, e2]
  exact H1
theorem L_cheapest (hI : IV sc M) (h1000 : sc 1000 = nI len) (hl : len ≤ 384) (hj : i + 6 ≤ len) (hc : c ≤ 488 + 8 * kk) (hw : w ≤ 103327 + 64 * kk) (H : ∀ M', IV sc M' → ok 40 (mLk kk) 0 Q 488 c w 1695 [some (.ref 2000000), some (.ref 0), some (.ref 457), some (.ref 487), some (.int (nI i)), l5, l6] [] M') : ok 40 (mLk kk) 0 Q 488 c w 1193 [some (.ref 2000000), some (.ref 0), some (.ref 457), some (.ref 487), some (.int (nI i)), l5, l6] [] M := by
  have hs := hI.2.1
  obtain ⟨r, M1, M2, e1, e2, hs1, hI2⟩ := B_cheapest (a := sc (i + 1)) hI
  have i1 := rdi hs h1000 hl (show i + 1 < len by omega)
  have j1 := rdi hs1 h1000 hl (show i + 1 < len by omega)
  have v1 := rdv hs (show i + 1 < 400 by omega)
  have u1 := rdv hs1 (show i + 1 < 400 by omega)
  have H1 := H M2 hI2
  simp (disch := (first | assumption | omega | decide)) only [sK_1193, sK_1194, sK_1195, sK_1197, sK_1198, sK_1199, sK_1200, sK_1203, sK_1204, sK_1205, sK_1207, sK_1208, sK_1209, sK_1210, sK_1213, kI_i, kL_l, kV_v, am_rv_s, am_kl_i, am_kl_r, am_kl_n, am_kl_l, true_and, and_true, and_self, true_or, or_true, implies_true, forall_const, not_true_eq_false, not_false_eq_true, false_implies, true_implies, if_true, if_false, Bool.true_eq_false, Bool.false_eq_true, ob_0, ob_457, nI_1, nI_2, nI_3, nI_q4, nI_q5, eq_self, i1, j1, v1, u1, e1, e2]
  exact H1
theorem L_places (hI : IV sc M) (h1000 : sc 1000 = nI len) (hl : len ≤ 384) (hj : i + 6 ≤ len) (hc : c ≤ 488 + 8 * kk) (hw : w ≤ 103327 + 64 * kk) (H : ∀ M', IV sc M' → ok 40 (mLk kk) 0 Q 488 c w 1695 [some (.ref 2000000), some (.ref 0), some (.ref 457), some (.ref 487), some (.int (nI i)), l5, l6] [] M') : ok 40 (mLk kk) 0 Q 488 c w 1218 [some (.ref 2000000), some (.ref 0), some (.ref 457), some (.ref 487), some (.int (nI i)), l5, l6] [] M := by
  have hs := hI.2.1
  obtain ⟨r, M1, M2, e1, e2, hs1, hI2⟩ := B_places (y := sc (i + 1)) (v := sc (i + 2)) hI
  have i1 := rdi hs h1000 hl (show i + 1 < len by omega)
  have j1 := rdi hs1 h1000 hl (show i + 1 < len by omega)
  have v1 := rdv hs (show i + 1 < 400 by omega)
  have u1 := rdv hs1 (show i + 1 < 400 by omega)
  have i2 := rdi hs h1000 hl (show i + 2 < len by omega)
  have j2 := rdi hs1 h1000 hl (show i + 2 < len by omega)
  have v2 := rdv hs (show i + 2 < 400 by omega)
  have u2 := rdv hs1 (show i + 2 < 400 by omega)
  have H1 := H M2 hI2
  simp (disch := (first | assumption | omega | decide)) only [sK_1218, sK_1219, sK_1220, sK_1222, sK_1223, sK_1224, sK_1225, sK_1226, sK_1228, sK_1229, sK_1230, sK_1231, sK_1234, sK_1235, sK_1236, sK_1238, sK_1239, sK_1240, sK_1241, sK_1242, sK_1244, sK_1245, sK_1246, sK_1247, sK_1250, kI_i, kL_l, kV_v, am_rv_s, am_kl_i, am_kl_r, am_kl_n, am_kl_l, true_and, and_true, and_self, true_or, or_true, implies_true, forall_const, not_true_eq_false, not_false_eq_true, false_implies, true_implies, if_true, if_false, Bool.true_eq_false, Bool.false_eq_true, ob_0, ob_457, nI_1, nI_2, nI_3, nI_q4, nI_q5, eq_self, i1, j1, v1, u1, i2, j2, v2, u2, e1, e2]
  exact H1
theorem L_needs (hI : IV sc M) (h1000 : sc 1000 = nI len) (hl : len ≤ 384) (hj : i + 6 ≤ len) (hc : c ≤ 488 + 8 * kk) (hw : w ≤ 103327 + 64 * kk) (H : ∀ M', IV sc M' → ok 40 (mLk kk) 0 Q 488 c w 1695 [some (.ref 2000000), some (.ref 0), some (.ref 457), some (.ref 487), some (.int (nI i)), l5, l6] [] M') : ok 40 (mLk kk) 0 Q 488 c w 1255 [some (.ref 2000000), some (.ref 0), some (.ref 457), some (.ref 487), some (.int (nI i)), l5, l6] [] M := by
  have hs := hI.2.1
  obtain ⟨r, M1, M2, e1, e2, hs1, hI2⟩ := B_needs (y := sc (i + 1)) (v := sc (i + 2)) hI
  have i1 := rdi hs h1000 hl (show i + 1 < len by omega)
  have j1 := rdi hs1 h1000 hl (show i + 1 < len by omega)
  have v1 := rdv hs (show i + 1 < 400 by omega)
  have u1 := rdv hs1 (show i + 1 < 400 by omega)
  have i2 := rdi hs h1000 hl (show i + 2 < len by omega)
  have j2 := rdi hs1 h1000 hl (show i + 2 < len by omega)
  have v2 := rdv hs (show i + 2 < 400 by omega)
  have u2 := rdv hs1 (show i + 2 < 400 by omega)
  have H1 := H M2 hI2
  simp (disch := (first | assumption | omega | decide)) only [sK_1255, sK_1256, sK_1257, sK_1259, sK_1260, sK_1261, sK_1262, sK_1263, sK_1265, sK_1266, sK_1267, sK_1268, sK_1271, sK_1272, sK_1273, sK_1275, sK_1276, sK_1277, sK_1278, sK_1279, sK_1281, sK_1282, sK_1283, sK_1284, sK_1287, kI_i, kL_l, kV_v, am_rv_s, am_kl_i, am_kl_r, am_kl_n, am_kl_l, true_and, and_true, and_self, true_or, or_true, implies_true, forall_const, not_true_eq_false, not_false_eq_true, false_implies, true_implies, if_true, if_false, Bool.true_eq_false, Bool.false_eq_true, ob_0, ob_457, nI_1, nI_2, nI_3, nI_q4, nI_q5, eq_self, i1, j1, v1, u1, i2, j2, v2, u2, e1, e2]
  exact H1
theorem L_sure (hI : IV sc M) (h1000 : sc 1000 = nI len) (hl : len ≤ 384) (hj : i + 6 ≤ len) (hc : c ≤ 488 + 8 * kk) (hw : w ≤ 103327 + 64 * kk) (H : ∀ M', IV sc M' → ok 40 (mLk kk) 0 Q 488 c w 1695 [some (.ref 2000000), some (.ref 0), some (.ref 457), some (.ref 487), some (.int (nI i)), l5, l6] [] M') : ok 40 (mLk kk) 0 Q 488 c w 1292 [some (.ref 2000000), some (.ref 0), some (.ref 457), some (.ref 487), some (.int (nI i)), l5, l6] [] M := by
  have hs := hI.2.1
  obtain ⟨r, M1, M2, e1, e2, hs1, hI2⟩ := B_sure (y := sc (i + 1)) (v := sc (i + 2)) hI
  have i1 := rdi hs h1000 hl (show i + 1 < len by omega)
  have j1 := rdi hs1 h1000 hl (show i + 1 < len by omega)
  have v1 := rdv hs (show i + 1 < 400 by omega)
  have u1 := rdv hs1 (show i + 1 < 400 by omega)
  have i2 := rdi hs h1000 hl (show i + 2 < len by omega)
  have j2 := rdi hs1 h1000 hl (show i + 2 < len by omega)
  have v2 := rdv hs (show i + 2 < 400 by omega)
  have u2 := rdv hs1 (show i + 2 < 400 by omega)
  have H1 := H M2 hI2
  simp (disch := (first | assumption | omega | decide)) only [sK_1292, sK_1293, sK_1294, sK_1296, sK_1297, sK_1298, sK_1299, sK_1300, sK_1302, sK_1303, sK_1304, sK_1305, sK_1308, sK_1309, sK_1310, sK_1312, sK_1313, sK_1314, sK_1315, sK_1316, sK_1318, sK_1319, sK_1320, sK_1321, sK_1324, kI_i, kL_l, kV_v, am_rv_s, am_kl_i, am_kl_r, am_kl_n, am_kl_l, true_and, and_true, and_self, true_or, or_true, implies_true, forall_const, not_true_eq_false, not_false_eq_true, false_implies, true_implies, if_true, if_false, Bool.true_eq_false, Bool.false_eq_true, ob_0, ob_457, nI_1, nI_2, nI_3, nI_q4, nI_q5, eq_self, i1, j1, v1, u1, i2, j2, v2, u2, e1, e2]
  exact H1
theorem L_alone (hI : IV sc M) (h1000 : sc 1000 = nI len) (hl : len ≤ 384) (hj : i + 6 ≤ len) (hc : c ≤ 488 + 8 * kk) (hw : w ≤ 103327 + 64 * kk) (H : ∀ M', IV sc M' → ok 40 (mLk kk) 0 Q 488 c w 1695 [some (.ref 2000000), some (.ref 0), some (.ref 457), some (.ref 487), some (.int (nI i)), l5, l6] [] M') : ok 40 (mLk kk) 0 Q 488 c w 1329 [some (.ref 2000000), some (.ref 0), some (.ref 457), some (.ref 487), some (.int (nI i)), l5, l6] [] M := by
  have hs := hI.2.1
  obtain ⟨r, M1, M2, e1, e2, hs1, hI2⟩ := B_alone (x := sc (i + 1)) hI
  have i1 := rdi hs h1000 hl (show i + 1 < len by omega)
  have j1 := rdi hs1 h1000 hl (show i + 1 < len by omega)
  have v1 := rdv hs (show i + 1 < 400 by omega)
  have u1 := rdv hs1 (show i + 1 < 400 by omega)
  have H1 := H M2 hI2
  simp (disch := (first | assumption | omega | decide)) only [sK_1329, sK_1330, sK_1331, sK_1333, sK_1334, sK_1335, sK_1336, sK_1339, sK_1340, sK_1341, sK_1343, sK_1344, sK_1345, sK_1346, sK_1349, kI_i, kL_l, kV_v, am_rv_s, am_kl_i, am_kl_r, am_kl_n, am_kl_l, true_and, and_true, and_self, true_or, or_true, implies_true, forall_const, not_true_eq_false, not_false_eq_true, false_implies, true_implies, if_true, if_false, Bool.true_eq_false, Bool.false_eq_true, ob_0, ob_457, nI_1, nI_2, nI_3, nI_q4, nI_q5, eq_self, i1, j1, v1, u1, e1, e2]
  exact H1
end
