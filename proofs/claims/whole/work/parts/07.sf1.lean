section
variable {d n0 : Nat} {Q : am_Q} {n c w : Nat} {ls : List (Option Value)} {st : List Value} {M : am_M}
theorem sX11_fault_46 {l0 : Option Value} {x : Int32} : ok d mX11_fault n0 Q n c w 46 (l0 :: some (.int x) :: ls) st M = ok d mX11_fault n0 Q n c w 47 (l0 :: some (.int x) :: ls) (.int x :: st) M := ok_r rfl rfl
theorem sX11_fault_47 : ok d mX11_fault n0 Q n c w 47 ls st M = ok d mX11_fault n0 Q n c w 48 ls (.int 2 :: st) M := ok_r rfl (by rw [← ic_2]; rfl)
theorem sX11_fault_48 {x z : Int32} : ok d mX11_fault n0 Q n c w 48 ls (.int z :: .int x :: st) M = ((¬ x = z → ok d mX11_fault n0 Q n c w 55 ls st M) ∧ (¬ (¬ x = z) → ok d mX11_fault n0 Q n c w 51 ls st M)) := ok_ico (pc := 48) (off := 7) (k := .ne) rfl 55 (by decide)
theorem sX11_fault_51 {x : Nat} : ok d mX11_fault n0 Q n c w 51 (some (.ref x) :: ls) st M = ok d mX11_fault n0 Q n c w 52 (some (.ref x) :: ls) (.ref x :: st) M := ok_r rfl rfl
theorem sX11_fault_52 {b : Nat}  : ok d mX11_fault n0 Q n 0 0 52 ls [.ref b] M = (am_ob n b 11 ∧ am_big d mX11_readPlan [.ref b] n M (kV fun M' => ok d mX11_fault n0 Q n 0 0 55 ls [] M')) := ok_vir (y := mX11_fault) (y' := mX11_readPlan) (pc := 52) (k := 296) (ps := [1545, 1547, 59, 110, 1548]) (c := 0) (w := 0) (st := [.ref b]) (as := [.ref b]) (rest := []) (b := b) rfl rfl rfl ⟨Nat.le_of_ble_eq_true rfl, Nat.le_of_ble_eq_true rfl, Nat.le_of_ble_eq_true rfl, Nat.le_of_ble_eq_true rfl, Nat.le_of_ble_eq_true rfl⟩ rfl rfl (am_contV rfl)
theorem sX11_fault_55 {x : Nat} : ok d mX11_fault n0 Q n c w 55 (some (.ref x) :: ls) st M = ok d mX11_fault n0 Q n c w 56 (some (.ref x) :: ls) (.ref x :: st) M := ok_r rfl rfl
theorem sX11_fault_56 {a : Nat} : ok d mX11_fault n0 Q n c w 56 ls (.ref a :: st) M = (am_ob n a 11 ∧ ok d mX11_fault n0 Q n c w 59 ls (.int (gI M a 11) :: st) M) := ok_get (q := (11, 11, 0, false, 1206)) rfl rfl rfl rfl
theorem sX11_fault_59 {x : Int32} : ok d mX11_fault n Q n 0 0 59 ls [.int x] M = Q (some (.int x)) M := ok_reI rfl rfl ⟨rfl, rfl, rfl⟩
theorem eX11_fault {a0 : Nat} {a1 : Int32} {n : Nat} {M : am_M} {Q : am_Q} : am_big (d + 1) mX11_fault [.ref a0, .int a1] n M Q = ok d mX11_fault n Q n 0 0 0 [some (.ref a0), some (.int a1)] [] M := rfl
set_option maxRecDepth 100000 in
theorem sX11_text_0 {x : Nat} : ok d mX11_text n0 Q n c w 0 (some (.ref x) :: ls) st M = ok d mX11_text n0 Q n c w 1 (some (.ref x) :: ls) (.ref x :: st) M := ok_r rfl rfl
set_option maxRecDepth 100000 in
theorem sX11_text_1 : ok d mX11_text n0 Q n c w 1 ls st M = ok d mX11_text n0 Q n c w 2 ls (.int 0 :: st) M := ok_r rfl (by rw [← ic_0]; rfl)
set_option maxRecDepth 100000 in
theorem sX11_text_2 {a : Nat} {x : Int32} : ok d mX11_text n0 Q n c w 2 ls (.int x :: .ref a :: st) M = (am_ob n a 11 ∧ ok d mX11_text n0 Q n c w 5 ls st (sI M a 0 x)) := ok_put (q := (11, 0, 0, false, 1195)) rfl rfl (fun h => by cases h) rfl rfl
set_option maxRecDepth 100000 in
theorem sX11_text_5 {l0 : Option Value} {x : Int32} : ok d mX11_text n0 Q n c w 5 (l0 :: some (.int x) :: ls) st M = ok d mX11_text n0 Q n c w 6 (l0 :: some (.int x) :: ls) (.int x :: st) M := ok_r rfl rfl
set_option maxRecDepth 100000 in
theorem sX11_text_6 {x : Int32} : ok d mX11_text n0 Q n c w 6 ls (.int x :: st) M = ok d mX11_text n0 Q n c w 7 ls (.long x.toInt64 :: st) M := ok_r rfl rfl
set_option maxRecDepth 100000 in
theorem sX11_text_7 : ok d mX11_text n0 Q n c w 7 ls st M = ok d mX11_text n0 Q n c w 8 ls (.long 0 :: st) M := ok_r rfl rfl
set_option maxRecDepth 100000 in
theorem sX11_text_8 : ok d mX11_text n0 Q n c w 8 ls st M = ok d mX11_text n0 Q n c w 11 ls (.long 2 :: st) M := ok_ldcl (v := (2, 1385)) rfl rfl rfl
set_option maxRecDepth 100000 in
theorem sX11_text_11 {a0 : Int64} {a1 : Int64} {a2 : Int64} : ok d mX11_text n0 Q n 0 0 11 ls [.long a2, .long a1, .long a0] M = am_big d mX11_isIn [.long a0, .long a1, .long a2] n M (kI fun x M' => ok d mX11_text n0 Q n 0 0 14 ls (.int x :: []) M') := ok_sta (y := mX11_text) (y' := mX11_isIn) (pc := 11) (k := 241) (ps := [1386, 1387, 110, 1388]) (c := 0) (w := 0) (st := [.long a2, .long a1, .long a0]) (as := [.long a0, .long a1, .long a2]) (rest := []) (kd := 1) rfl rfl (by decide) ⟨Nat.le_of_ble_eq_true rfl, Nat.le_of_ble_eq_true rfl, Nat.le_of_ble_eq_true rfl, Nat.le_of_ble_eq_true rfl, Nat.le_of_ble_eq_true rfl⟩ rfl rfl (am_contI (Or.inr rfl) rfl)
set_option maxRecDepth 100000 in
theorem sX11_text_14 {x : Int32} : ok d mX11_text n0 Q n c w 14 ls (.int x :: st) M = ((x = 0 → ok d mX11_text n0 Q n c w 52 ls st M) ∧ (¬ (x = 0) → ok d mX11_text n0 Q n c w 17 ls st M)) := ok_ifc (pc := 14) (off := 38) (k := .eq) rfl 52 (by decide)
set_option maxRecDepth 100000 in
theorem sX11_text_17 {l0 : Option Value} {x : Int32} : ok d mX11_text n0 Q n c w 17 (l0 :: some (.int x) :: ls) st M = ok d mX11_text n0 Q n c w 18 (l0 :: some (.int x) :: ls) (.int x :: st) M := ok_r rfl rfl
set_option maxRecDepth 100000 in
theorem sX11_text_18 : ok d mX11_text n0 Q n c w 18 ls st M = ok d mX11_text n0 Q n c w 19 ls (.int 1 :: st) M := ok_r rfl (by rw [← ic_1]; rfl)
set_option maxRecDepth 100000 in
theorem sX11_text_19 {x z : Int32} : ok d mX11_text n0 Q n c w 19 ls (.int z :: .int x :: st) M = ((¬ x = z → ok d mX11_text n0 Q n c w 30 ls st M) ∧ (¬ (¬ x = z) → ok d mX11_text n0 Q n c w 22 ls st M)) := ok_ico (pc := 19) (off := 11) (k := .ne) rfl 30 (by decide)
set_option maxRecDepth 100000 in
theorem sX11_text_22 {x : Nat} : ok d mX11_text n0 Q n c w 22 (some (.ref x) :: ls) st M = ok d mX11_text n0 Q n c w 23 (some (.ref x) :: ls) (.ref x :: st) M := ok_r rfl rfl
set_option maxRecDepth 100000 in
theorem sX11_text_23 {a : Nat} : ok d mX11_text n0 Q n c w 23 ls (.ref a :: st) M = (am_ob n a 11 ∧ ok d mX11_text n0 Q n c w 26 ls (.int (gI M a 7) :: st) M) := ok_get (q := (11, 7, 0, false, 1202)) rfl rfl rfl rfl
set_option maxRecDepth 100000 in
theorem sX11_text_26 : ok d mX11_text n0 Q n c w 26 ls st M = ok d mX11_text n0 Q n c w 27 ls (.int 4 :: st) M := ok_r rfl (by rw [← ic_4]; rfl)
set_option maxRecDepth 100000 in
theorem sX11_text_27 {x z : Int32} : ok d mX11_text n0 Q n c w 27 ls (.int z :: .int x :: st) M = ((x = z → ok d mX11_text n0 Q n c w 52 ls st M) ∧ (¬ (x = z) → ok d mX11_text n0 Q n c w 30 ls st M)) := ok_ico (pc := 27) (off := 25) (k := .eq) rfl 52 (by decide)
set_option maxRecDepth 100000 in
theorem sX11_text_30 {l0 : Option Value} {x : Int32} : ok d mX11_text n0 Q n c w 30 (l0 :: some (.int x) :: ls) st M = ok d mX11_text n0 Q n c w 31 (l0 :: some (.int x) :: ls) (.int x :: st) M := ok_r rfl rfl
set_option maxRecDepth 100000 in
theorem sX11_text_31 : ok d mX11_text n0 Q n c w 31 ls st M = ok d mX11_text n0 Q n c w 32 ls (.int 2 :: st) M := ok_r rfl (by rw [← ic_2]; rfl)
set_option maxRecDepth 100000 in
theorem sX11_text_32 {x z : Int32} : ok d mX11_text n0 Q n c w 32 ls (.int z :: .int x :: st) M = ((¬ x = z → ok d mX11_text n0 Q n c w 43 ls st M) ∧ (¬ (¬ x = z) → ok d mX11_text n0 Q n c w 35 ls st M)) := ok_ico (pc := 32) (off := 11) (k := .ne) rfl 43 (by decide)
set_option maxRecDepth 100000 in
theorem sX11_text_35 {x : Nat} : ok d mX11_text n0 Q n c w 35 (some (.ref x) :: ls) st M = ok d mX11_text n0 Q n c w 36 (some (.ref x) :: ls) (.ref x :: st) M := ok_r rfl rfl
set_option maxRecDepth 100000 in
theorem sX11_text_36 {a : Nat} : ok d mX11_text n0 Q n c w 36 ls (.ref a :: st) M = (am_ob n a 11 ∧ ok d mX11_text n0 Q n c w 39 ls (.int (gI M a 25) :: st) M) := ok_get (q := (11, 25, 0, false, 1220)) rfl rfl rfl rfl
set_option maxRecDepth 100000 in
theorem sX11_text_39 : ok d mX11_text n0 Q n c w 39 ls st M = ok d mX11_text n0 Q n c w 40 ls (.int 4 :: st) M := ok_r rfl (by rw [← ic_4]; rfl)
set_option maxRecDepth 100000 in
theorem sX11_text_40 {x z : Int32} : ok d mX11_text n0 Q n c w 40 ls (.int z :: .int x :: st) M = ((x = z → ok d mX11_text n0 Q n c w 52 ls st M) ∧ (¬ (x = z) → ok d mX11_text n0 Q n c w 43 ls st M)) := ok_ico (pc := 40) (off := 12) (k := .eq) rfl 52 (by decide)
set_option maxRecDepth 100000 in
theorem sX11_text_43 {x : Nat} : ok d mX11_text n0 Q n c w 43 (some (.ref x) :: ls) st M = ok d mX11_text n0 Q n c w 44 (some (.ref x) :: ls) (.ref x :: st) M := ok_r rfl rfl
set_option maxRecDepth 100000 in
theorem sX11_text_44 {l0 : Option Value} {x : Int32} : ok d mX11_text n0 Q n c w 44 (l0 :: some (.int x) :: ls) st M = ok d mX11_text n0 Q n c w 45 (l0 :: some (.int x) :: ls) (.int x :: st) M := ok_r rfl rfl
set_option maxRecDepth 100000 in
theorem sX11_text_45 {b : Nat} {a0 : Int32} : ok d mX11_text n0 Q n 0 0 45 ls [.int a0, .ref b] M = (am_ob n b 11 ∧ am_big d mX11_fault [.ref b, .int a0] n M (kI fun x M' => ok d mX11_text n0 Q n 0 0 48 ls (.int x :: []) M')) := ok_vir (y := mX11_text) (y' := mX11_fault) (pc := 45) (k := 305) (ps := [1565, 1382, 1383, 110, 1384]) (c := 0) (w := 0) (st := [.int a0, .ref b]) (as := [.ref b, .int a0]) (rest := []) (b := b) rfl rfl rfl ⟨Nat.le_of_ble_eq_true rfl, Nat.le_of_ble_eq_true rfl, Nat.le_of_ble_eq_true rfl, Nat.le_of_ble_eq_true rfl, Nat.le_of_ble_eq_true rfl⟩ rfl rfl (am_contI (Or.inl rfl) rfl)
set_option maxRecDepth 100000 in
theorem sX11_text_48 : ok d mX11_text n0 Q n c w 48 ls st M = ok d mX11_text n0 Q n c w 49 ls (.int (-1) :: st) M := ok_r rfl (by rw [← ic_m1]; rfl)
set_option maxRecDepth 100000 in
theorem sX11_text_49 {x z : Int32} : ok d mX11_text n0 Q n c w 49 ls (.int z :: .int x :: st) M = ((x = z → ok d mX11_text n0 Q n c w 54 ls st M) ∧ (¬ (x = z) → ok d mX11_text n0 Q n c w 52 ls st M)) := ok_ico (pc := 49) (off := 5) (k := .eq) rfl 54 (by decide)
set_option maxRecDepth 100000 in
theorem sX11_text_52 : ok d mX11_text n0 Q n c w 52 ls st M = ok d mX11_text n0 Q n c w 53 ls (.int (-1) :: st) M := ok_r rfl (by rw [← ic_m1]; rfl)
set_option maxRecDepth 100000 in
theorem sX11_text_53 {x : Int32} : ok d mX11_text n Q n 0 0 53 ls [.int x] M = Q (some (.int x)) M := ok_reI rfl rfl ⟨rfl, rfl, rfl⟩
set_option maxRecDepth 100000 in
theorem sX11_text_54 {x : Nat} : ok d mX11_text n0 Q n c w 54 (some (.ref x) :: ls) st M = ok d mX11_text n0 Q n c w 55 (some (.ref x) :: ls) (.ref x :: st) M := ok_r rfl rfl
set_option maxRecDepth 100000 in
theorem sX11_text_55 {a : Nat} : ok d mX11_text n0 Q n c w 55 ls (.ref a :: st) M = (am_ob n a 11 ∧ ok d mX11_text n0 Q n c w 58 ls (.int (gI M a 6) :: st) M) := ok_get (q := (11, 6, 0, false, 1201)) rfl rfl rfl rfl
set_option maxRecDepth 100000 in
theorem sX11_text_58 {l0 l1 l2 : Option Value} {x : Int32} : ok d mX11_text n0 Q n c w 58 (l0 :: l1 :: l2 :: ls) (.int x :: st) M = ok d mX11_text n0 Q n c w 59 (l0 :: am_kl l1 :: some (.int x) :: ls) st M := ok_ist (k := 2) rfl (Or.inr ⟨_, rfl, rfl⟩) (by decide) rfl rfl
set_option maxRecDepth 100000 in
theorem sX11_text_59 {x : Nat} : ok d mX11_text n0 Q n c w 59 (some (.ref x) :: ls) st M = ok d mX11_text n0 Q n c w 60 (some (.ref x) :: ls) (.ref x :: st) M := ok_r rfl rfl
set_option maxRecDepth 100000 in
theorem sX11_text_60 : ok d mX11_text n0 Q n c w 60 ls st M = ok d mX11_text n0 Q n c w 61 ls (.int 0 :: st) M := ok_r rfl (by rw [← ic_0]; rfl)
set_option maxRecDepth 100000 in
theorem sX11_text_61 {a : Nat} {x : Int32} : ok d mX11_text n0 Q n c w 61 ls (.int x :: .ref a :: st) M = (am_ob n a 11 ∧ ok d mX11_text n0 Q n c w 64 ls st (sI M a 6 x)) := ok_put (q := (11, 6, 0, false, 1201)) rfl rfl (fun h => by cases h) rfl rfl
set_option maxRecDepth 100000 in
theorem sX11_text_64 {l0 : Option Value} {x : Int32} : ok d mX11_text n0 Q n c w 64 (l0 :: some (.int x) :: ls) st M = ok d mX11_text n0 Q n c w 65 (l0 :: some (.int x) :: ls) (.int x :: st) M := ok_r rfl rfl
set_option maxRecDepth 100000 in
theorem sX11_text_65 : ok d mX11_text n0 Q n c w 65 ls st M = ok d mX11_text n0 Q n c w 66 ls (.int 1 :: st) M := ok_r rfl (by rw [← ic_1]; rfl)
set_option maxRecDepth 100000 in
theorem sX11_text_66 {x z : Int32} : ok d mX11_text n0 Q n c w 66 ls (.int z :: .int x :: st) M = ((¬ x = z → ok d mX11_text n0 Q n c w 130 ls st M) ∧ (¬ (¬ x = z) → ok d mX11_text n0 Q n c w 69 ls st M)) := ok_ico (pc := 66) (off := 64) (k := .ne) rfl 130 (by decide)
set_option maxRecDepth 100000 in
theorem sX11_text_69 : ok d mX11_text n0 Q n c w 69 ls st M = ok d mX11_text n0 Q n c w 70 ls (.int 0 :: st) M := ok_r rfl (by rw [← ic_0]; rfl)
set_option maxRecDepth 100000 in
theorem sX11_text_70 {l0 l1 l2 l3 : Option Value} {x : Int32} : ok d mX11_text n0 Q n c w 70 (l0 :: l1 :: l2 :: l3 :: ls) (.int x :: st) M = ok d mX11_text n0 Q n c w 71 (l0 :: l1 :: am_kl l2 :: some (.int x) :: ls) st M := ok_ist (k := 3) rfl (Or.inr ⟨_, rfl, rfl⟩) (by decide) rfl rfl
set_option maxRecDepth 100000 in
theorem sX11_text_71 {l0 l1 l2 : Option Value} {x : Int32} : ok d mX11_text n0 Q n c w 71 (l0 :: l1 :: l2 :: some (.int x) :: ls) st M = ok d mX11_text n0 Q n c w 72 (l0 :: l1 :: l2 :: some (.int x) :: ls) (.int x :: st) M := ok_r rfl rfl
set_option maxRecDepth 100000 in
theorem sX11_text_72 {l0 l1 : Option Value} {x : Int32} : ok d mX11_text n0 Q n c w 72 (l0 :: l1 :: some (.int x) :: ls) st M = ok d mX11_text n0 Q n c w 73 (l0 :: l1 :: some (.int x) :: ls) (.int x :: st) M := ok_r rfl rfl
set_option maxRecDepth 100000 in
theorem sX11_text_73 {x z : Int32} : ok d mX11_text n0 Q n c w 73 ls (.int z :: .int x :: st) M = ((z ≤ x → ok d mX11_text n0 Q n c w 103 ls st M) ∧ (¬ (z ≤ x) → ok d mX11_text n0 Q n c w 76 ls st M)) := ok_ico (pc := 73) (off := 30) (k := .ge) rfl 103 (by decide)
set_option maxRecDepth 100000 in
theorem sX11_text_76 {x : Nat} : ok d mX11_text n0 Q n c w 76 (some (.ref x) :: ls) st M = ok d mX11_text n0 Q n c w 77 (some (.ref x) :: ls) (.ref x :: st) M := ok_r rfl rfl
set_option maxRecDepth 100000 in
theorem sX11_text_77 {a : Nat} : ok d mX11_text n0 Q n c w 77 ls (.ref a :: st) M = (am_ob n a 11 ∧ ok d mX11_text n0 Q n c w 80 ls (am_rv (gR M a 2) :: st) M) := ok_get (q := (11, 2, 2, true, 1197)) rfl rfl rfl rfl
set_option maxRecDepth 100000 in
theorem sX11_text_80 : ok d mX11_text n0 Q n c w 80 ls st M = ok d mX11_text n0 Q n c w 83 ls (.int 240 :: st) M := ok_r rfl (by rw [← sc_240]; rfl)
set_option maxRecDepth 100000 in
theorem sX11_text_83 {x : Nat} : ok d mX11_text n0 Q n c w 83 (some (.ref x) :: ls) st M = ok d mX11_text n0 Q n c w 84 (some (.ref x) :: ls) (.ref x :: st) M := ok_r rfl rfl
set_option maxRecDepth 100000 in
theorem sX11_text_84 {a : Nat} : ok d mX11_text n0 Q n c w 84 ls (.ref a :: st) M = (am_ob n a 11 ∧ ok d mX11_text n0 Q n c w 87 ls (.int (gI M a 7) :: st) M) := ok_get (q := (11, 7, 0, false, 1202)) rfl rfl rfl rfl
set_option maxRecDepth 100000 in
theorem sX11_text_87 {x z : Int32} : ok d mX11_text n0 Q n c w 87 ls (.int z :: .int x :: st) M = ok d mX11_text n0 Q n c w 88 ls (.int (x * z) :: st) M := ok_r rfl rfl
set_option maxRecDepth 100000 in
theorem sX11_text_88 {l0 l1 l2 : Option Value} {x : Int32} : ok d mX11_text n0 Q n c w 88 (l0 :: l1 :: l2 :: some (.int x) :: ls) st M = ok d mX11_text n0 Q n c w 89 (l0 :: l1 :: l2 :: some (.int x) :: ls) (.int x :: st) M := ok_r rfl rfl
set_option maxRecDepth 100000 in
theorem sX11_text_89 {x z : Int32} : ok d mX11_text n0 Q n c w 89 ls (.int z :: .int x :: st) M = ok d mX11_text n0 Q n c w 90 ls (.int (x + z) :: st) M := ok_r rfl rfl
set_option maxRecDepth 100000 in
theorem sX11_text_90 {x : Nat} : ok d mX11_text n0 Q n c w 90 (some (.ref x) :: ls) st M = ok d mX11_text n0 Q n c w 91 (some (.ref x) :: ls) (.ref x :: st) M := ok_r rfl rfl
set_option maxRecDepth 100000 in
theorem sX11_text_91 {a : Nat} : ok d mX11_text n0 Q n c w 91 ls (.ref a :: st) M = (am_ob n a 11 ∧ ok d mX11_text n0 Q n c w 94 ls (am_rv (gR M a 1) :: st) M) := ok_get (q := (11, 1, 2, true, 1196)) rfl rfl rfl rfl
set_option maxRecDepth 100000 in
theorem sX11_text_94 {l0 l1 l2 : Option Value} {x : Int32} : ok d mX11_text n0 Q n c w 94 (l0 :: l1 :: l2 :: some (.int x) :: ls) st M = ok d mX11_text n0 Q n c w 95 (l0 :: l1 :: l2 :: some (.int x) :: ls) (.int x :: st) M := ok_r rfl rfl
set_option maxRecDepth 100000 in
theorem sX11_text_95 {a : Nat} {i : Int32} : ok d mX11_text n0 Q n c w 95 ls (.int i :: .ref a :: st) M = ((am_iw n a 2 i ∨ am_iw n a 3 i) ∧ ok d mX11_text n0 Q n c w 96 ls (.int (gI M a i.toNatClampNeg) :: st) M) := ok_r rfl rfl
set_option maxRecDepth 100000 in
theorem sX11_text_96 {a : Nat} {i x : Int32} : ok d mX11_text n0 Q n c w 96 ls (.int x :: .int i :: .ref a :: st) M = ((am_iw n a 2 i ∧ ok d mX11_text n0 Q n c w 97 ls st (sI M a i.toNatClampNeg x.toInt8.toInt32)) ∨ (am_iw n a 3 i ∧ (x = 0 ∨ x = 1) ∧ ok d mX11_text n0 Q n c w 97 ls st (sI M a i.toNatClampNeg x))) := ok_r rfl rfl
set_option maxRecDepth 100000 in
theorem sX11_text_97 {l0 l1 l2 : Option Value} {x : Int32} : ok d mX11_text n0 Q n c w 97 (l0 :: l1 :: l2 :: some (.int x) :: ls) st M = ok d mX11_text n0 Q n c w 100 (l0 :: l1 :: am_kl l2 :: some (.int (x + 1)) :: ls) st M := ok_inc (k := 3) rfl rfl ic_1 (by decide) rfl rfl
set_option maxRecDepth 100000 in
theorem sX11_text_100 : ok d mX11_text n0 Q n c w 100 ls st M = ok d mX11_text n0 Q n c w 71 ls st M := ok_got (pc := 100) (off := (-29)) rfl 71 (by decide)
set_option maxRecDepth 100000 in
theorem sX11_text_103 {x : Nat} : ok d mX11_text n0 Q n c w 103 (some (.ref x) :: ls) st M = ok d mX11_text n0 Q n c w 104 (some (.ref x) :: ls) (.ref x :: st) M := ok_r rfl rfl
set_option maxRecDepth 100000 in
theorem sX11_text_104 {a : Nat} : ok d mX11_text n0 Q n c w 104 ls (.ref a :: st) M = (am_ob n a 11 ∧ ok d mX11_text n0 Q n c w 107 ls (am_rv (gR M a 3) :: st) M) := ok_get (q := (11, 3, 2, true, 1198)) rfl rfl rfl rfl
set_option maxRecDepth 100000 in
theorem sX11_text_107 {x : Nat} : ok d mX11_text n0 Q n c w 107 (some (.ref x) :: ls) st M = ok d mX11_text n0 Q n c w 108 (some (.ref x) :: ls) (.ref x :: st) M := ok_r rfl rfl
set_option maxRecDepth 100000 in
theorem sX11_text_108 {a : Nat} : ok d mX11_text n0 Q n c w 108 ls (.ref a :: st) M = (am_ob n a 11 ∧ ok d mX11_text n0 Q n c w 111 ls (.int (gI M a 7) :: st) M) := ok_get (q := (11, 7, 0, false, 1202)) rfl rfl rfl rfl
set_option maxRecDepth 100000 in
theorem sX11_text_111 {l0 l1 : Option Value} {x : Int32} : ok d mX11_text n0 Q n c w 111 (l0 :: l1 :: some (.int x) :: ls) st M = ok d mX11_text n0 Q n c w 112 (l0 :: l1 :: some (.int x) :: ls) (.int x :: st) M := ok_r rfl rfl
set_option maxRecDepth 100000 in
theorem sX11_text_112 {a : Nat} {i x : Int32} : ok d mX11_text n0 Q n c w 112 ls (.int x :: .int i :: .ref a :: st) M = (am_iw n a 1 i ∧ ok d mX11_text n0 Q n c w 113 ls st (sI M a i.toNatClampNeg x)) := ok_r rfl rfl
set_option maxRecDepth 100000 in
theorem sX11_text_113 {x : Nat} : ok d mX11_text n0 Q n c w 113 (some (.ref x) :: ls) st M = ok d mX11_text n0 Q n c w 114 (some (.ref x) :: ls) (.ref x :: st) M := ok_r rfl rfl
set_option maxRecDepth 100000 in
theorem sX11_text_114 {x : Nat} : ok d mX11_text n0 Q n c w 114 ls (.ref x :: st) M = ok d mX11_text n0 Q n c w 115 ls (.ref x :: .ref x :: st) M := ok_r rfl rfl
set_option maxRecDepth 100000 in
theorem sX11_text_115 {a : Nat} : ok d mX11_text n0 Q n c w 115 ls (.ref a :: st) M = (am_ob n a 11 ∧ ok d mX11_text n0 Q n c w 118 ls (.int (gI M a 7) :: st) M) := ok_get (q := (11, 7, 0, false, 1202)) rfl rfl rfl rfl
set_option maxRecDepth 100000 in
theorem sX11_text_118 : ok d mX11_text n0 Q n c w 118 ls st M = ok d mX11_text n0 Q n c w 119 ls (.int 1 :: st) M := ok_r rfl (by rw [← ic_1]; rfl)
set_option maxRecDepth 100000 in
theorem sX11_text_119 {x z : Int32} : ok d mX11_text n0 Q n c w 119 ls (.int z :: .int x :: st) M = ok d mX11_text n0 Q n c w 120 ls (.int (x + z) :: st) M := ok_r rfl rfl
set_option maxRecDepth 100000 in
theorem sX11_text_120 {a : Nat} {x : Int32} : ok d mX11_text n0 Q n c w 120 ls (.int x :: .ref a :: st) M = (am_ob n a 11 ∧ ok d mX11_text n0 Q n c w 123 ls st (sI M a 7 x)) := ok_put (q := (11, 7, 0, false, 1202)) rfl rfl (fun h => by cases h) rfl rfl
set_option maxRecDepth 100000 in
theorem sX11_text_123 {x : Nat} : ok d mX11_text n0 Q n c w 123 (some (.ref x) :: ls) st M = ok d mX11_text n0 Q n c w 124 (some (.ref x) :: ls) (.ref x :: st) M := ok_r rfl rfl
set_option maxRecDepth 100000 in
theorem sX11_text_124 {a : Nat} : ok d mX11_text n0 Q n c w 124 ls (.ref a :: st) M = (am_ob n a 11 ∧ ok d mX11_text n0 Q n c w 127 ls (.int (gI M a 7) :: st) M) := ok_get (q := (11, 7, 0, false, 1202)) rfl rfl rfl rfl
set_option maxRecDepth 100000 in
theorem sX11_text_127 : ok d mX11_text n0 Q n c w 127 ls st M = ok d mX11_text n0 Q n c w 128 ls (.int 1 :: st) M := ok_r rfl (by rw [← ic_1]; rfl)
set_option maxRecDepth 100000 in
theorem sX11_text_128 {x z : Int32} : ok d mX11_text n0 Q n c w 128 ls (.int z :: .int x :: st) M = ok d mX11_text n0 Q n c w 129 ls (.int (x - z) :: st) M := ok_r rfl rfl
set_option maxRecDepth 100000 in
theorem sX11_text_129 {x : Int32} : ok d mX11_text n Q n 0 0 129 ls [.int x] M = Q (some (.int x)) M := ok_reI rfl rfl ⟨rfl, rfl, rfl⟩
set_option maxRecDepth 100000 in
theorem sX11_text_130 {l0 : Option Value} {x : Int32} : ok d mX11_text n0 Q n c w 130 (l0 :: some (.int x) :: ls) st M = ok d mX11_text n0 Q n c w 131 (l0 :: some (.int x) :: ls) (.int x :: st) M := ok_r rfl rfl
set_option maxRecDepth 100000 in
theorem sX11_text_131 : ok d mX11_text n0 Q n c w 131 ls st M = ok d mX11_text n0 Q n c w 132 ls (.int 2 :: st) M := ok_r rfl (by rw [← ic_2]; rfl)
set_option maxRecDepth 100000 in
theorem sX11_text_132 {x z : Int32} : ok d mX11_text n0 Q n c w 132 ls (.int z :: .int x :: st) M = ((¬ x = z → ok d mX11_text n0 Q n c w 205 ls st M) ∧ (¬ (¬ x = z) → ok d mX11_text n0 Q n c w 135 ls st M)) := ok_ico (pc := 132) (off := 73) (k := .ne) rfl 205 (by decide)
set_option maxRecDepth 100000 in
theorem sX11_text_135 : ok d mX11_text n0 Q n c w 135 ls st M = ok d mX11_text n0 Q n c w 136 ls (.int 0 :: st) M := ok_r rfl (by rw [← ic_0]; rfl)
set_option maxRecDepth 100000 in
theorem sX11_text_136 {l0 l1 l2 l3 : Option Value} {x : Int32} : ok d mX11_text n0 Q n c w 136 (l0 :: l1 :: l2 :: l3 :: ls) (.int x :: st) M = ok d mX11_text n0 Q n c w 137 (l0 :: l1 :: am_kl l2 :: some (.int x) :: ls) st M := ok_ist (k := 3) rfl (Or.inr ⟨_, rfl, rfl⟩) (by decide) rfl rfl
set_option maxRecDepth 100000 in
theorem sX11_text_137 {l0 l1 l2 : Option Value} {x : Int32} : ok d mX11_text n0 Q n c w 137 (l0 :: l1 :: l2 :: some (.int x) :: ls) st M = ok d mX11_text n0 Q n c w 138 (l0 :: l1 :: l2 :: some (.int x) :: ls) (.int x :: st) M := ok_r rfl rfl
set_option maxRecDepth 100000 in
theorem sX11_text_138 : ok d mX11_text n0 Q n c w 138 ls st M = ok d mX11_text n0 Q n c w 140 ls (.int 48 :: st) M := ok_r rfl (by rw [← bc_48]; rfl)
set_option maxRecDepth 100000 in
theorem sX11_text_140 {x z : Int32} : ok d mX11_text n0 Q n c w 140 ls (.int z :: .int x :: st) M = ((z ≤ x → ok d mX11_text n0 Q n c w 173 ls st M) ∧ (¬ (z ≤ x) → ok d mX11_text n0 Q n c w 143 ls st M)) := ok_ico (pc := 140) (off := 33) (k := .ge) rfl 173 (by decide)
set_option maxRecDepth 100000 in
theorem sX11_text_143 {x : Nat} : ok d mX11_text n0 Q n c w 143 (some (.ref x) :: ls) st M = ok d mX11_text n0 Q n c w 144 (some (.ref x) :: ls) (.ref x :: st) M := ok_r rfl rfl
set_option maxRecDepth 100000 in
theorem sX11_text_144 {a : Nat} : ok d mX11_text n0 Q n c w 144 ls (.ref a :: st) M = (am_ob n a 11 ∧ ok d mX11_text n0 Q n c w 147 ls (am_rv (gR M a 19) :: st) M) := ok_get (q := (11, 19, 2, true, 1214)) rfl rfl rfl rfl
set_option maxRecDepth 100000 in
theorem sX11_text_147 : ok d mX11_text n0 Q n c w 147 ls st M = ok d mX11_text n0 Q n c w 149 ls (.int 48 :: st) M := ok_r rfl (by rw [← bc_48]; rfl)
set_option maxRecDepth 100000 in
theorem sX11_text_149 {x : Nat} : ok d mX11_text n0 Q n c w 149 (some (.ref x) :: ls) st M = ok d mX11_text n0 Q n c w 150 (some (.ref x) :: ls) (.ref x :: st) M := ok_r rfl rfl
set_option maxRecDepth 100000 in
theorem sX11_text_150 {a : Nat} : ok d mX11_text n0 Q n c w 150 ls (.ref a :: st) M = (am_ob n a 11 ∧ ok d mX11_text n0 Q n c w 153 ls (.int (gI M a 25) :: st) M) := ok_get (q := (11, 25, 0, false, 1220)) rfl rfl rfl rfl
set_option maxRecDepth 100000 in
theorem sX11_text_153 {x z : Int32} : ok d mX11_text n0 Q n c w 153 ls (.int z :: .int x :: st) M = ok d mX11_text n0 Q n c w 154 ls (.int (x * z) :: st) M := ok_r rfl rfl
set_option maxRecDepth 100000 in
theorem sX11_text_154 {l0 l1 l2 : Option Value} {x : Int32} : ok d mX11_text n0 Q n c w 154 (l0 :: l1 :: l2 :: some (.int x) :: ls) st M = ok d mX11_text n0 Q n c w 155 (l0 :: l1 :: l2 :: some (.int x) :: ls) (.int x :: st) M := ok_r rfl rfl
set_option maxRecDepth 100000 in
theorem sX11_text_155 {x z : Int32} : ok d mX11_text n0 Q n c w 155 ls (.int z :: .int x :: st) M = ok d mX11_text n0 Q n c w 156 ls (.int (x + z) :: st) M := ok_r rfl rfl
set_option maxRecDepth 100000 in
theorem sX11_text_156 {x : Nat} : ok d mX11_text n0 Q n c w 156 (some (.ref x) :: ls) st M = ok d mX11_text n0 Q n c w 157 (some (.ref x) :: ls) (.ref x :: st) M := ok_r rfl rfl
set_option maxRecDepth 100000 in
theorem sX11_text_157 {a : Nat} : ok d mX11_text n0 Q n c w 157 ls (.ref a :: st) M = (am_ob n a 11 ∧ ok d mX11_text n0 Q n c w 160 ls (am_rv (gR M a 19) :: st) M) := ok_get (q := (11, 19, 2, true, 1214)) rfl rfl rfl rfl
set_option maxRecDepth 100000 in
theorem sX11_text_160 : ok d mX11_text n0 Q n c w 160 ls st M = ok d mX11_text n0 Q n c w 163 ls (.int 192 :: st) M := ok_r rfl (by rw [← sc_192]; rfl)
set_option maxRecDepth 100000 in
theorem sX11_text_163 {l0 l1 l2 : Option Value} {x : Int32} : ok d mX11_text n0 Q n c w 163 (l0 :: l1 :: l2 :: some (.int x) :: ls) st M = ok d mX11_text n0 Q n c w 164 (l0 :: l1 :: l2 :: some (.int x) :: ls) (.int x :: st) M := ok_r rfl rfl
set_option maxRecDepth 100000 in
theorem sX11_text_164 {x z : Int32} : ok d mX11_text n0 Q n c w 164 ls (.int z :: .int x :: st) M = ok d mX11_text n0 Q n c w 165 ls (.int (x + z) :: st) M := ok_r rfl rfl
set_option maxRecDepth 100000 in
theorem sX11_text_165 {a : Nat} {i : Int32} : ok d mX11_text n0 Q n c w 165 ls (.int i :: .ref a :: st) M = (am_in n M a 1 i ∧ ok d mX11_text n0 Q n c w 166 ls (.int (gI M a i.toNatClampNeg) :: st) M) := ok_r rfl rfl
set_option maxRecDepth 100000 in
theorem sX11_text_166 {a : Nat} {i x : Int32} : ok d mX11_text n0 Q n c w 166 ls (.int x :: .int i :: .ref a :: st) M = (am_iw n a 1 i ∧ ok d mX11_text n0 Q n c w 167 ls st (sI M a i.toNatClampNeg x)) := ok_r rfl rfl
set_option maxRecDepth 100000 in
theorem sX11_text_167 {l0 l1 l2 : Option Value} {x : Int32} : ok d mX11_text n0 Q n c w 167 (l0 :: l1 :: l2 :: some (.int x) :: ls) st M = ok d mX11_text n0 Q n c w 170 (l0 :: l1 :: am_kl l2 :: some (.int (x + 1)) :: ls) st M := ok_inc (k := 3) rfl rfl ic_1 (by decide) rfl rfl
set_option maxRecDepth 100000 in
theorem sX11_text_170 : ok d mX11_text n0 Q n c w 170 ls st M = ok d mX11_text n0 Q n c w 137 ls st M := ok_got (pc := 170) (off := (-33)) rfl 137 (by decide)
set_option maxRecDepth 100000 in
theorem sX11_text_173 {x : Nat} : ok d mX11_text n0 Q n c w 173 (some (.ref x) :: ls) st M = ok d mX11_text n0 Q n c w 174 (some (.ref x) :: ls) (.ref x :: st) M := ok_r rfl rfl
set_option maxRecDepth 100000 in
theorem sX11_text_174 {a : Nat} : ok d mX11_text n0 Q n c w 174 ls (.ref a :: st) M = (am_ob n a 11 ∧ ok d mX11_text n0 Q n c w 177 ls (am_rv (gR M a 20) :: st) M) := ok_get (q := (11, 20, 2, true, 1215)) rfl rfl rfl rfl
set_option maxRecDepth 100000 in
theorem sX11_text_177 {x : Nat} : ok d mX11_text n0 Q n c w 177 (some (.ref x) :: ls) st M = ok d mX11_text n0 Q n c w 178 (some (.ref x) :: ls) (.ref x :: st) M := ok_r rfl rfl
set_option maxRecDepth 100000 in
theorem sX11_text_178 {a : Nat} : ok d mX11_text n0 Q n c w 178 ls (.ref a :: st) M = (am_ob n a 11 ∧ ok d mX11_text n0 Q n c w 181 ls (.int (gI M a 25) :: st) M) := ok_get (q := (11, 25, 0, false, 1220)) rfl rfl rfl rfl
set_option maxRecDepth 100000 in
theorem sX11_text_181 {x : Nat} : ok d mX11_text n0 Q n c w 181 (some (.ref x) :: ls) st M = ok d mX11_text n0 Q n c w 182 (some (.ref x) :: ls) (.ref x :: st) M := ok_r rfl rfl
set_option maxRecDepth 100000 in
theorem sX11_text_182 {a : Nat} : ok d mX11_text n0 Q n c w 182 ls (.ref a :: st) M = (am_ob n a 11 ∧ ok d mX11_text n0 Q n c w 185 ls (am_rv (gR M a 20) :: st) M) := ok_get (q := (11, 20, 2, true, 1215)) rfl rfl rfl rfl
set_option maxRecDepth 100000 in
theorem sX11_text_185 : ok d mX11_text n0 Q n c w 185 ls st M = ok d mX11_text n0 Q n c w 186 ls (.int 4 :: st) M := ok_r rfl (by rw [← ic_4]; rfl)
set_option maxRecDepth 100000 in
theorem sX11_text_186 {a : Nat} {i : Int32} : ok d mX11_text n0 Q n c w 186 ls (.int i :: .ref a :: st) M = (am_in n M a 1 i ∧ ok d mX11_text n0 Q n c w 187 ls (.int (gI M a i.toNatClampNeg) :: st) M) := ok_r rfl rfl
set_option maxRecDepth 100000 in
theorem sX11_text_187 {a : Nat} {i x : Int32} : ok d mX11_text n0 Q n c w 187 ls (.int x :: .int i :: .ref a :: st) M = (am_iw n a 1 i ∧ ok d mX11_text n0 Q n c w 188 ls st (sI M a i.toNatClampNeg x)) := ok_r rfl rfl
set_option maxRecDepth 100000 in
theorem sX11_text_188 {x : Nat} : ok d mX11_text n0 Q n c w 188 (some (.ref x) :: ls) st M = ok d mX11_text n0 Q n c w 189 (some (.ref x) :: ls) (.ref x :: st) M := ok_r rfl rfl
set_option maxRecDepth 100000 in
theorem sX11_text_189 {x : Nat} : ok d mX11_text n0 Q n c w 189 ls (.ref x :: st) M = ok d mX11_text n0 Q n c w 190 ls (.ref x :: .ref x :: st) M := ok_r rfl rfl
set_option maxRecDepth 100000 in
theorem sX11_text_190 {a : Nat} : ok d mX11_text n0 Q n c w 190 ls (.ref a :: st) M = (am_ob n a 11 ∧ ok d mX11_text n0 Q n c w 193 ls (.int (gI M a 25) :: st) M) := ok_get (q := (11, 25, 0, false, 1220)) rfl rfl rfl rfl
set_option maxRecDepth 100000 in
theorem sX11_text_193 : ok d mX11_text n0 Q n c w 193 ls st M = ok d mX11_text n0 Q n c w 194 ls (.int 1 :: st) M := ok_r rfl (by rw [← ic_1]; rfl)
set_option maxRecDepth 100000 in
theorem sX11_text_194 {x z : Int32} : ok d mX11_text n0 Q n c w 194 ls (.int z :: .int x :: st) M = ok d mX11_text n0 Q n c w 195 ls (.int (x + z) :: st) M := ok_r rfl rfl
set_option maxRecDepth 100000 in
theorem sX11_text_195 {a : Nat} {x : Int32} : ok d mX11_text n0 Q n c w 195 ls (.int x :: .ref a :: st) M = (am_ob n a 11 ∧ ok d mX11_text n0 Q n c w 198 ls st (sI M a 25 x)) := ok_put (q := (11, 25, 0, false, 1220)) rfl rfl (fun h => by cases h) rfl rfl
set_option maxRecDepth 100000 in
theorem sX11_text_198 {x : Nat} : ok d mX11_text n0 Q n c w 198 (some (.ref x) :: ls) st M = ok d mX11_text n0 Q n c w 199 (some (.ref x) :: ls) (.ref x :: st) M := ok_r rfl rfl
set_option maxRecDepth 100000 in
theorem sX11_text_199 {a : Nat} : ok d mX11_text n0 Q n c w 199 ls (.ref a :: st) M = (am_ob n a 11 ∧ ok d mX11_text n0 Q n c w 202 ls (.int (gI M a 25) :: st) M) := ok_get (q := (11, 25, 0, false, 1220)) rfl rfl rfl rfl
set_option maxRecDepth 100000 in
theorem sX11_text_202 : ok d mX11_text n0 Q n c w 202 ls st M = ok d mX11_text n0 Q n c w 203 ls (.int 1 :: st) M := ok_r rfl (by rw [← ic_1]; rfl)
set_option maxRecDepth 100000 in
theorem sX11_text_203 {x z : Int32} : ok d mX11_text n0 Q n c w 203 ls (.int z :: .int x :: st) M = ok d mX11_text n0 Q n c w 204 ls (.int (x - z) :: st) M := ok_r rfl rfl
set_option maxRecDepth 100000 in
theorem sX11_text_204 {x : Int32} : ok d mX11_text n Q n 0 0 204 ls [.int x] M = Q (some (.int x)) M := ok_reI rfl rfl ⟨rfl, rfl, rfl⟩
set_option maxRecDepth 100000 in
theorem sX11_text_205 {x : Nat} : ok d mX11_text n0 Q n c w 205 (some (.ref x) :: ls) st M = ok d mX11_text n0 Q n c w 206 (some (.ref x) :: ls) (.ref x :: st) M := ok_r rfl rfl
set_option maxRecDepth 100000 in
theorem sX11_text_206 {x : Nat} : ok d mX11_text n0 Q n c w 206 (some (.ref x) :: ls) st M = ok d mX11_text n0 Q n c w 207 (some (.ref x) :: ls) (.ref x :: st) M := ok_r rfl rfl
set_option maxRecDepth 100000 in
theorem sX11_text_207 {a : Nat} : ok d mX11_text n0 Q n c w 207 ls (.ref a :: st) M = (am_ob n a 11 ∧ ok d mX11_text n0 Q n c w 210 ls (.int (gI M a 22) :: st) M) := ok_get (q := (11, 22, 0, false, 1217)) rfl rfl rfl rfl
set_option maxRecDepth 100000 in
theorem sX11_text_210 {a : Nat} {x : Int32} : ok d mX11_text n0 Q n c w 210 ls (.int x :: .ref a :: st) M = (am_ob n a 11 ∧ ok d mX11_text n0 Q n c w 213 ls st (sI M a 21 x)) := ok_put (q := (11, 21, 0, false, 1216)) rfl rfl (fun h => by cases h) rfl rfl
set_option maxRecDepth 100000 in
theorem sX11_text_213 {x : Nat} : ok d mX11_text n0 Q n c w 213 (some (.ref x) :: ls) st M = ok d mX11_text n0 Q n c w 214 (some (.ref x) :: ls) (.ref x :: st) M := ok_r rfl rfl
set_option maxRecDepth 100000 in
theorem sX11_text_214 {x : Nat} : ok d mX11_text n0 Q n c w 214 (some (.ref x) :: ls) st M = ok d mX11_text n0 Q n c w 215 (some (.ref x) :: ls) (.ref x :: st) M := ok_r rfl rfl
set_option maxRecDepth 100000 in
theorem sX11_text_215 {a : Nat} : ok d mX11_text n0 Q n c w 215 ls (.ref a :: st) M = (am_ob n a 11 ∧ ok d mX11_text n0 Q n c w 218 ls (.int (gI M a 24) :: st) M) := ok_get (q := (11, 24, 0, false, 1219)) rfl rfl rfl rfl
set_option maxRecDepth 100000 in
theorem sX11_text_218 {a : Nat} {x : Int32} : ok d mX11_text n0 Q n c w 218 ls (.int x :: .ref a :: st) M = (am_ob n a 11 ∧ ok d mX11_text n0 Q n c w 221 ls st (sI M a 23 x)) := ok_put (q := (11, 23, 0, false, 1218)) rfl rfl (fun h => by cases h) rfl rfl
set_option maxRecDepth 100000 in
theorem sX11_text_221 : ok d mX11_text n0 Q n c w 221 ls st M = ok d mX11_text n0 Q n c w 222 ls (.int 0 :: st) M := ok_r rfl (by rw [← ic_0]; rfl)
set_option maxRecDepth 100000 in
theorem sX11_text_222 {l0 l1 l2 l3 : Option Value} {x : Int32} : ok d mX11_text n0 Q n c w 222 (l0 :: l1 :: l2 :: l3 :: ls) (.int x :: st) M = ok d mX11_text n0 Q n c w 223 (l0 :: l1 :: am_kl l2 :: some (.int x) :: ls) st M := ok_ist (k := 3) rfl (Or.inr ⟨_, rfl, rfl⟩) (by decide) rfl rfl
set_option maxRecDepth 100000 in
theorem sX11_text_223 {l0 l1 l2 : Option Value} {x : Int32} : ok d mX11_text n0 Q n c w 223 (l0 :: l1 :: l2 :: some (.int x) :: ls) st M = ok d mX11_text n0 Q n c w 224 (l0 :: l1 :: l2 :: some (.int x) :: ls) (.int x :: st) M := ok_r rfl rfl
set_option maxRecDepth 100000 in
theorem sX11_text_224 : ok d mX11_text n0 Q n c w 224 ls st M = ok d mX11_text n0 Q n c w 227 ls (.int 164 :: st) M := ok_r rfl (by rw [← sc_164]; rfl)
set_option maxRecDepth 100000 in
theorem sX11_text_227 {x z : Int32} : ok d mX11_text n0 Q n c w 227 ls (.int z :: .int x :: st) M = ((z ≤ x → ok d mX11_text n0 Q n c w 243 ls st M) ∧ (¬ (z ≤ x) → ok d mX11_text n0 Q n c w 230 ls st M)) := ok_ico (pc := 227) (off := 16) (k := .ge) rfl 243 (by decide)
set_option maxRecDepth 100000 in
theorem sX11_text_230 {x : Nat} : ok d mX11_text n0 Q n c w 230 (some (.ref x) :: ls) st M = ok d mX11_text n0 Q n c w 231 (some (.ref x) :: ls) (.ref x :: st) M := ok_r rfl rfl
set_option maxRecDepth 100000 in
theorem sX11_text_231 {a : Nat} : ok d mX11_text n0 Q n c w 231 ls (.ref a :: st) M = (am_ob n a 11 ∧ ok d mX11_text n0 Q n c w 234 ls (am_rv (gR M a 27) :: st) M) := ok_get (q := (11, 27, 2, true, 1222)) rfl rfl rfl rfl
set_option maxRecDepth 100000 in
theorem sX11_text_234 {l0 l1 l2 : Option Value} {x : Int32} : ok d mX11_text n0 Q n c w 234 (l0 :: l1 :: l2 :: some (.int x) :: ls) st M = ok d mX11_text n0 Q n c w 235 (l0 :: l1 :: l2 :: some (.int x) :: ls) (.int x :: st) M := ok_r rfl rfl
set_option maxRecDepth 100000 in
theorem sX11_text_235 : ok d mX11_text n0 Q n c w 235 ls st M = ok d mX11_text n0 Q n c w 236 ls (.int 0 :: st) M := ok_r rfl (by rw [← ic_0]; rfl)
set_option maxRecDepth 100000 in
theorem sX11_text_236 {a : Nat} {i x : Int32} : ok d mX11_text n0 Q n c w 236 ls (.int x :: .int i :: .ref a :: st) M = (am_iw n a 1 i ∧ ok d mX11_text n0 Q n c w 237 ls st (sI M a i.toNatClampNeg x)) := ok_r rfl rfl
set_option maxRecDepth 100000 in
theorem sX11_text_237 {l0 l1 l2 : Option Value} {x : Int32} : ok d mX11_text n0 Q n c w 237 (l0 :: l1 :: l2 :: some (.int x) :: ls) st M = ok d mX11_text n0 Q n c w 240 (l0 :: l1 :: am_kl l2 :: some (.int (x + 1)) :: ls) st M := ok_inc (k := 3) rfl rfl ic_1 (by decide) rfl rfl
set_option maxRecDepth 100000 in
theorem sX11_text_240 : ok d mX11_text n0 Q n c w 240 ls st M = ok d mX11_text n0 Q n c w 223 ls st M := ok_got (pc := 240) (off := (-17)) rfl 223 (by decide)
set_option maxRecDepth 100000 in
theorem sX11_text_243 : ok d mX11_text n0 Q n c w 243 ls st M = ok d mX11_text n0 Q n c w 244 ls (.int 0 :: st) M := ok_r rfl (by rw [← ic_0]; rfl)
set_option maxRecDepth 100000 in
theorem sX11_text_244 {l0 l1 l2 l3 : Option Value} {x : Int32} : ok d mX11_text n0 Q n c w 244 (l0 :: l1 :: l2 :: l3 :: ls) (.int x :: st) M = ok d mX11_text n0 Q n c w 245 (l0 :: l1 :: am_kl l2 :: some (.int x) :: ls) st M := ok_ist (k := 3) rfl (Or.inr ⟨_, rfl, rfl⟩) (by decide) rfl rfl
set_option maxRecDepth 100000 in
theorem sX11_text_245 {l0 l1 l2 : Option Value} {x : Int32} : ok d mX11_text n0 Q n c w 245 (l0 :: l1 :: l2 :: some (.int x) :: ls) st M = ok d mX11_text n0 Q n c w 246 (l0 :: l1 :: l2 :: some (.int x) :: ls) (.int x :: st) M := ok_r rfl rfl
set_option maxRecDepth 100000 in
theorem sX11_text_246 {x : Nat} : ok d mX11_text n0 Q n c w 246 (some (.ref x) :: ls) st M = ok d mX11_text n0 Q n c w 247 (some (.ref x) :: ls) (.ref x :: st) M := ok_r rfl rfl
set_option maxRecDepth 100000 in
theorem sX11_text_247 {a : Nat} : ok d mX11_text n0 Q n c w 247 ls (.ref a :: st) M = (am_ob n a 11 ∧ ok d mX11_text n0 Q n c w 250 ls (.int (gI M a 23) :: st) M) := ok_get (q := (11, 23, 0, false, 1218)) rfl rfl rfl rfl
set_option maxRecDepth 100000 in
theorem sX11_text_250 {x z : Int32} : ok d mX11_text n0 Q n c w 250 ls (.int z :: .int x :: st) M = ((z ≤ x → ok d mX11_text n0 Q n c w 298 ls st M) ∧ (¬ (z ≤ x) → ok d mX11_text n0 Q n c w 253 ls st M)) := ok_ico (pc := 250) (off := 48) (k := .ge) rfl 298 (by decide)
set_option maxRecDepth 100000 in
theorem sX11_text_253 {x : Nat} : ok d mX11_text n0 Q n c w 253 (some (.ref x) :: ls) st M = ok d mX11_text n0 Q n c w 254 (some (.ref x) :: ls) (.ref x :: st) M := ok_r rfl rfl
set_option maxRecDepth 100000 in
theorem sX11_text_254 {a : Nat} : ok d mX11_text n0 Q n c w 254 ls (.ref a :: st) M = (am_ob n a 11 ∧ ok d mX11_text n0 Q n c w 257 ls (am_rv (gR M a 27) :: st) M) := ok_get (q := (11, 27, 2, true, 1222)) rfl rfl rfl rfl
set_option maxRecDepth 100000 in
theorem sX11_text_257 : ok d mX11_text n0 Q n c w 257 ls st M = ok d mX11_text n0 Q n c w 259 ls (.int 37 :: st) M := ok_r rfl (by rw [← bc_37]; rfl)
set_option maxRecDepth 100000 in
theorem sX11_text_259 {l0 l1 l2 : Option Value} {x : Int32} : ok d mX11_text n0 Q n c w 259 (l0 :: l1 :: l2 :: some (.int x) :: ls) st M = ok d mX11_text n0 Q n c w 260 (l0 :: l1 :: l2 :: some (.int x) :: ls) (.int x :: st) M := ok_r rfl rfl
set_option maxRecDepth 100000 in
theorem sX11_text_260 {x z : Int32} : ok d mX11_text n0 Q n c w 260 ls (.int z :: .int x :: st) M = ok d mX11_text n0 Q n c w 261 ls (.int (x + z) :: st) M := ok_r rfl rfl
set_option maxRecDepth 100000 in
theorem sX11_text_261 {x : Nat} : ok d mX11_text n0 Q n c w 261 (some (.ref x) :: ls) st M = ok d mX11_text n0 Q n c w 262 (some (.ref x) :: ls) (.ref x :: st) M := ok_r rfl rfl
set_option maxRecDepth 100000 in
theorem sX11_text_262 {a : Nat} : ok d mX11_text n0 Q n c w 262 ls (.ref a :: st) M = (am_ob n a 11 ∧ ok d mX11_text n0 Q n c w 265 ls (am_rv (gR M a 18) :: st) M) := ok_get (q := (11, 18, 2, true, 1213)) rfl rfl rfl rfl
set_option maxRecDepth 100000 in
theorem sX11_text_265 : ok d mX11_text n0 Q n c w 265 ls st M = ok d mX11_text n0 Q n c w 266 ls (.int 2 :: st) M := ok_r rfl (by rw [← ic_2]; rfl)
set_option maxRecDepth 100000 in
theorem sX11_text_266 {l0 l1 l2 : Option Value} {x : Int32} : ok d mX11_text n0 Q n c w 266 (l0 :: l1 :: l2 :: some (.int x) :: ls) st M = ok d mX11_text n0 Q n c w 267 (l0 :: l1 :: l2 :: some (.int x) :: ls) (.int x :: st) M := ok_r rfl rfl
set_option maxRecDepth 100000 in
theorem sX11_text_267 {x z : Int32} : ok d mX11_text n0 Q n c w 267 ls (.int z :: .int x :: st) M = ok d mX11_text n0 Q n c w 268 ls (.int (x * z) :: st) M := ok_r rfl rfl
set_option maxRecDepth 100000 in
theorem sX11_text_268 {a : Nat} {i : Int32} : ok d mX11_text n0 Q n c w 268 ls (.int i :: .ref a :: st) M = (am_in n M a 1 i ∧ ok d mX11_text n0 Q n c w 269 ls (.int (gI M a i.toNatClampNeg) :: st) M) := ok_r rfl rfl
set_option maxRecDepth 100000 in
theorem sX11_text_269 {a : Nat} {i x : Int32} : ok d mX11_text n0 Q n c w 269 ls (.int x :: .int i :: .ref a :: st) M = (am_iw n a 1 i ∧ ok d mX11_text n0 Q n c w 270 ls st (sI M a i.toNatClampNeg x)) := ok_r rfl rfl
set_option maxRecDepth 100000 in
theorem sX11_text_270 {x : Nat} : ok d mX11_text n0 Q n c w 270 (some (.ref x) :: ls) st M = ok d mX11_text n0 Q n c w 271 (some (.ref x) :: ls) (.ref x :: st) M := ok_r rfl rfl
set_option maxRecDepth 100000 in
theorem sX11_text_271 {a : Nat} : ok d mX11_text n0 Q n c w 271 ls (.ref a :: st) M = (am_ob n a 11 ∧ ok d mX11_text n0 Q n c w 274 ls (am_rv (gR M a 27) :: st) M) := ok_get (q := (11, 27, 2, true, 1222)) rfl rfl rfl rfl
set_option maxRecDepth 100000 in
theorem sX11_text_274 : ok d mX11_text n0 Q n c w 274 ls st M = ok d mX11_text n0 Q n c w 276 ls (.int 41 :: st) M := ok_r rfl (by rw [← bc_41]; rfl)
set_option maxRecDepth 100000 in
theorem sX11_text_276 {x : Nat} {z : Int32} : ok d mX11_text n0 Q n c w 276 ls (.int z :: .ref x :: st) M = ok d mX11_text n0 Q n c w 277 ls (.int z :: .ref x :: .int z :: .ref x :: st) M := ok_r rfl rfl
set_option maxRecDepth 100000 in
theorem sX11_text_277 {a : Nat} {i : Int32} : ok d mX11_text n0 Q n c w 277 ls (.int i :: .ref a :: st) M = (am_in n M a 1 i ∧ ok d mX11_text n0 Q n c w 278 ls (.int (gI M a i.toNatClampNeg) :: st) M) := ok_r rfl rfl
set_option maxRecDepth 100000 in
theorem sX11_text_278 {x : Nat} : ok d mX11_text n0 Q n c w 278 (some (.ref x) :: ls) st M = ok d mX11_text n0 Q n c w 279 (some (.ref x) :: ls) (.ref x :: st) M := ok_r rfl rfl
set_option maxRecDepth 100000 in
theorem sX11_text_279 {a : Nat} : ok d mX11_text n0 Q n c w 279 ls (.ref a :: st) M = (am_ob n a 11 ∧ ok d mX11_text n0 Q n c w 282 ls (am_rv (gR M a 18) :: st) M) := ok_get (q := (11, 18, 2, true, 1213)) rfl rfl rfl rfl
set_option maxRecDepth 100000 in
theorem sX11_text_282 : ok d mX11_text n0 Q n c w 282 ls st M = ok d mX11_text n0 Q n c w 283 ls (.int 2 :: st) M := ok_r rfl (by rw [← ic_2]; rfl)
set_option maxRecDepth 100000 in
theorem sX11_text_283 {l0 l1 l2 : Option Value} {x : Int32} : ok d mX11_text n0 Q n c w 283 (l0 :: l1 :: l2 :: some (.int x) :: ls) st M = ok d mX11_text n0 Q n c w 284 (l0 :: l1 :: l2 :: some (.int x) :: ls) (.int x :: st) M := ok_r rfl rfl
set_option maxRecDepth 100000 in
theorem sX11_text_284 {x z : Int32} : ok d mX11_text n0 Q n c w 284 ls (.int z :: .int x :: st) M = ok d mX11_text n0 Q n c w 285 ls (.int (x * z) :: st) M := ok_r rfl rfl
set_option maxRecDepth 100000 in
theorem sX11_text_285 : ok d mX11_text n0 Q n c w 285 ls st M = ok d mX11_text n0 Q n c w 286 ls (.int 1 :: st) M := ok_r rfl (by rw [← ic_1]; rfl)
set_option maxRecDepth 100000 in
theorem sX11_text_286 {x z : Int32} : ok d mX11_text n0 Q n c w 286 ls (.int z :: .int x :: st) M = ok d mX11_text n0 Q n c w 287 ls (.int (x + z) :: st) M := ok_r rfl rfl
set_option maxRecDepth 100000 in
theorem sX11_text_287 {a : Nat} {i : Int32} : ok d mX11_text n0 Q n c w 287 ls (.int i :: .ref a :: st) M = (am_in n M a 1 i ∧ ok d mX11_text n0 Q n c w 288 ls (.int (gI M a i.toNatClampNeg) :: st) M) := ok_r rfl rfl
set_option maxRecDepth 100000 in
theorem sX11_text_288 {l0 l1 l2 : Option Value} {x : Int32} : ok d mX11_text n0 Q n c w 288 (l0 :: l1 :: l2 :: some (.int x) :: ls) st M = ok d mX11_text n0 Q n c w 289 (l0 :: l1 :: l2 :: some (.int x) :: ls) (.int x :: st) M := ok_r rfl rfl
set_option maxRecDepth 100000 in
theorem sX11_text_289 {x z : Int32} : ok d mX11_text n0 Q n c w 289 ls (.int z :: .int x :: st) M = ok d mX11_text n0 Q n c w 290 ls (.int (x <<< (z &&& 31)) :: st) M := ok_r rfl rfl
set_option maxRecDepth 100000 in
theorem sX11_text_290 {x z : Int32} : ok d mX11_text n0 Q n c w 290 ls (.int z :: .int x :: st) M = ok d mX11_text n0 Q n c w 291 ls (.int (x ||| z) :: st) M := ok_r rfl rfl
set_option maxRecDepth 100000 in
theorem sX11_text_291 {a : Nat} {i x : Int32} : ok d mX11_text n0 Q n c w 291 ls (.int x :: .int i :: .ref a :: st) M = (am_iw n a 1 i ∧ ok d mX11_text n0 Q n c w 292 ls st (sI M a i.toNatClampNeg x)) := ok_r rfl rfl
set_option maxRecDepth 100000 in
theorem sX11_text_292 {l0 l1 l2 : Option Value} {x : Int32} : ok d mX11_text n0 Q n c w 292 (l0 :: l1 :: l2 :: some (.int x) :: ls) st M = ok d mX11_text n0 Q n c w 295 (l0 :: l1 :: am_kl l2 :: some (.int (x + 1)) :: ls) st M := ok_inc (k := 3) rfl rfl ic_1 (by decide) rfl rfl
set_option maxRecDepth 100000 in
theorem sX11_text_295 : ok d mX11_text n0 Q n c w 295 ls st M = ok d mX11_text n0 Q n c w 245 ls st M := ok_got (pc := 295) (off := (-50)) rfl 245 (by decide)
set_option maxRecDepth 100000 in
theorem sX11_text_298 {x : Nat} : ok d mX11_text n0 Q n c w 298 (some (.ref x) :: ls) st M = ok d mX11_text n0 Q n c w 299 (some (.ref x) :: ls) (.ref x :: st) M := ok_r rfl rfl
set_option maxRecDepth 100000 in
theorem sX11_text_299 : ok d mX11_text n0 Q n c w 299 ls st M = ok d mX11_text n0 Q n c w 300 ls (.int 0 :: st) M := ok_r rfl (by rw [← ic_0]; rfl)
set_option maxRecDepth 100000 in
theorem sX11_text_300 {a : Nat} {x : Int32} : ok d mX11_text n0 Q n c w 300 ls (.int x :: .ref a :: st) M = (am_ob n a 11 ∧ ok d mX11_text n0 Q n c w 303 ls st (sI M a 52 x)) := ok_put (q := (11, 52, 0, false, 1247)) rfl rfl (fun h => by cases h) rfl rfl
set_option maxRecDepth 100000 in
theorem sX11_text_303 {x : Nat} : ok d mX11_text n0 Q n c w 303 (some (.ref x) :: ls) st M = ok d mX11_text n0 Q n c w 304 (some (.ref x) :: ls) (.ref x :: st) M := ok_r rfl rfl
set_option maxRecDepth 100000 in
theorem sX11_text_304 : ok d mX11_text n0 Q n c w 304 ls st M = ok d mX11_text n0 Q n c w 305 ls (.int 0 :: st) M := ok_r rfl (by rw [← ic_0]; rfl)
set_option maxRecDepth 100000 in
theorem sX11_text_305 {a : Nat} {x : Int32} : ok d mX11_text n0 Q n c w 305 ls (.int x :: .ref a :: st) M = (am_ob n a 11 ∧ ok d mX11_text n0 Q n c w 308 ls st (sI M a 41 x)) := ok_put (q := (11, 41, 0, false, 1236)) rfl rfl (fun h => by cases h) rfl rfl
set_option maxRecDepth 100000 in
theorem sX11_text_308 {x : Nat} : ok d mX11_text n0 Q n c w 308 (some (.ref x) :: ls) st M = ok d mX11_text n0 Q n c w 309 (some (.ref x) :: ls) (.ref x :: st) M := ok_r rfl rfl
set_option maxRecDepth 100000 in
theorem sX11_text_309 : ok d mX11_text n0 Q n c w 309 ls st M = ok d mX11_text n0 Q n c w 310 ls (.int 0 :: st) M := ok_r rfl (by rw [← ic_0]; rfl)
set_option maxRecDepth 100000 in
theorem sX11_text_310 {a : Nat} {x : Int32} : ok d mX11_text n0 Q n c w 310 ls (.int x :: .ref a :: st) M = ((x = 0 ∨ x = 1) ∧ am_ob n a 11 ∧ ok d mX11_text n0 Q n c w 313 ls st (sI M a 54 x)) := ok_put (q := (11, 54, 3, false, 1249)) rfl rfl (fun h => by cases h) rfl rfl
set_option maxRecDepth 100000 in
theorem sX11_text_313 {x : Nat} : ok d mX11_text n0 Q n c w 313 (some (.ref x) :: ls) st M = ok d mX11_text n0 Q n c w 314 (some (.ref x) :: ls) (.ref x :: st) M := ok_r rfl rfl
set_option maxRecDepth 100000 in
theorem sX11_text_314 {a : Nat} : ok d mX11_text n0 Q n c w 314 ls (.ref a :: st) M = (am_ob n a 11 ∧ ok d mX11_text n0 Q n c w 317 ls (.int (gI M a 23) :: st) M) := ok_get (q := (11, 23, 0, false, 1218)) rfl rfl rfl rfl
set_option maxRecDepth 100000 in
theorem sX11_text_317 {x : Int32} : ok d mX11_text n Q n 0 0 317 ls [.int x] M = Q (some (.int x)) M := ok_reI rfl rfl ⟨rfl, rfl, rfl⟩
theorem eX11_text {a0 : Nat} {a1 : Int32} {n : Nat} {M : am_M} {Q : am_Q} : am_big (d + 1) mX11_text [.ref a0, .int a1] n M Q = ok d mX11_text n Q n 0 0 0 [some (.ref a0), some (.int a1), none, none] [] M := rfl
theorem sX11_stands_0 : ok d mX11_stands n0 Q n c w 0 ls st M = ok d mX11_stands n0 Q n c w 1 ls (.int 0 :: st) M := ok_r rfl (by rw [← ic_0]; rfl)
theorem sX11_stands_1 {l0 l1 l2 : Option Value} {x : Int32} : ok d mX11_stands n0 Q n c w 1 (l0 :: l1 :: l2 :: ls) (.int x :: st) M = ok d mX11_stands n0 Q n c w 2 (l0 :: am_kl l1 :: some (.int x) :: ls) st M := ok_ist (k := 2) rfl (Or.inr ⟨_, rfl, rfl⟩) (by decide) rfl rfl
theorem sX11_stands_2 {l0 l1 : Option Value} {x : Int32} : ok d mX11_stands n0 Q n c w 2 (l0 :: l1 :: some (.int x) :: ls) st M = ok d mX11_stands n0 Q n c w 3 (l0 :: l1 :: some (.int x) :: ls) (.int x :: st) M := ok_r rfl rfl
theorem sX11_stands_3 : ok d mX11_stands n0 Q n c w 3 ls st M = ok d mX11_stands n0 Q n c w 5 ls (.int 6 :: st) M := ok_r rfl (by rw [← bc_6]; rfl)
theorem sX11_stands_5 {x z : Int32} : ok d mX11_stands n0 Q n c w 5 ls (.int z :: .int x :: st) M = ((z ≤ x → ok d mX11_stands n0 Q n c w 56 ls st M) ∧ (¬ (z ≤ x) → ok d mX11_stands n0 Q n c w 8 ls st M)) := ok_ico (pc := 5) (off := 51) (k := .ge) rfl 56 (by decide)
theorem sX11_stands_8 {x : Nat} : ok d mX11_stands n0 Q n c w 8 (some (.ref x) :: ls) st M = ok d mX11_stands n0 Q n c w 9 (some (.ref x) :: ls) (.ref x :: st) M := ok_r rfl rfl
theorem sX11_stands_9 {a : Nat} : ok d mX11_stands n0 Q n c w 9 ls (.ref a :: st) M = (am_ob n a 11 ∧ ok d mX11_stands n0 Q n c w 12 ls (am_rv (gR M a 31) :: st) M) := ok_get (q := (11, 31, 2, true, 1226)) rfl rfl rfl rfl
theorem sX11_stands_12 {l0 l1 : Option Value} {x : Int32} : ok d mX11_stands n0 Q n c w 12 (l0 :: l1 :: some (.int x) :: ls) st M = ok d mX11_stands n0 Q n c w 13 (l0 :: l1 :: some (.int x) :: ls) (.int x :: st) M := ok_r rfl rfl
theorem sX11_stands_13 : ok d mX11_stands n0 Q n c w 13 ls st M = ok d mX11_stands n0 Q n c w 14 ls (.int (-1) :: st) M := ok_r rfl (by rw [← ic_m1]; rfl)
theorem sX11_stands_14 {a : Nat} {i x : Int32} : ok d mX11_stands n0 Q n c w 14 ls (.int x :: .int i :: .ref a :: st) M = (am_iw n a 1 i ∧ ok d mX11_stands n0 Q n c w 15 ls st (sI M a i.toNatClampNeg x)) := ok_r rfl rfl
theorem sX11_stands_15 {x : Nat} : ok d mX11_stands n0 Q n c w 15 (some (.ref x) :: ls) st M = ok d mX11_stands n0 Q n c w 16 (some (.ref x) :: ls) (.ref x :: st) M := ok_r rfl rfl
theorem sX11_stands_16 {a : Nat} : ok d mX11_stands n0 Q n c w 16 ls (.ref a :: st) M = (am_ob n a 11 ∧ ok d mX11_stands n0 Q n c w 19 ls (am_rv (gR M a 32) :: st) M) := ok_get (q := (11, 32, 2, true, 1227)) rfl rfl rfl rfl
theorem sX11_stands_19 {l0 l1 : Option Value} {x : Int32} : ok d mX11_stands n0 Q n c w 19 (l0 :: l1 :: some (.int x) :: ls) st M = ok d mX11_stands n0 Q n c w 20 (l0 :: l1 :: some (.int x) :: ls) (.int x :: st) M := ok_r rfl rfl
theorem sX11_stands_20 : ok d mX11_stands n0 Q n c w 20 ls st M = ok d mX11_stands n0 Q n c w 21 ls (.int 0 :: st) M := ok_r rfl (by rw [← ic_0]; rfl)
theorem sX11_stands_21 {a : Nat} {i x : Int32} : ok d mX11_stands n0 Q n c w 21 ls (.int x :: .int i :: .ref a :: st) M = (am_iw n a 1 i ∧ ok d mX11_stands n0 Q n c w 22 ls st (sI M a i.toNatClampNeg x)) := ok_r rfl rfl
theorem sX11_stands_22 {x : Nat} : ok d mX11_stands n0 Q n c w 22 (some (.ref x) :: ls) st M = ok d mX11_stands n0 Q n c w 23 (some (.ref x) :: ls) (.ref x :: st) M := ok_r rfl rfl
theorem sX11_stands_23 {a : Nat} : ok d mX11_stands n0 Q n c w 23 ls (.ref a :: st) M = (am_ob n a 11 ∧ ok d mX11_stands n0 Q n c w 26 ls (am_rv (gR M a 33) :: st) M) := ok_get (q := (11, 33, 2, true, 1228)) rfl rfl rfl rfl
theorem sX11_stands_26 {l0 l1 : Option Value} {x : Int32} : ok d mX11_stands n0 Q n c w 26 (l0 :: l1 :: some (.int x) :: ls) st M = ok d mX11_stands n0 Q n c w 27 (l0 :: l1 :: some (.int x) :: ls) (.int x :: st) M := ok_r rfl rfl
theorem sX11_stands_27 : ok d mX11_stands n0 Q n c w 27 ls st M = ok d mX11_stands n0 Q n c w 28 ls (.int 0 :: st) M := ok_r rfl (by rw [← ic_0]; rfl)
theorem sX11_stands_28 {a : Nat} {i x : Int32} : ok d mX11_stands n0 Q n c w 28 ls (.int x :: .int i :: .ref a :: st) M = (am_iw n a 1 i ∧ ok d mX11_stands n0 Q n c w 29 ls st (sI M a i.toNatClampNeg x)) := ok_r rfl rfl
theorem sX11_stands_29 {x : Nat} : ok d mX11_stands n0 Q n c w 29 (some (.ref x) :: ls) st M = ok d mX11_stands n0 Q n c w 30 (some (.ref x) :: ls) (.ref x :: st) M := ok_r rfl rfl
theorem sX11_stands_30 {a : Nat} : ok d mX11_stands n0 Q n c w 30 ls (.ref a :: st) M = (am_ob n a 11 ∧ ok d mX11_stands n0 Q n c w 33 ls (am_rv (gR M a 34) :: st) M) := ok_get (q := (11, 34, 2, true, 1229)) rfl rfl rfl rfl
theorem sX11_stands_33 {l0 l1 : Option Value} {x : Int32} : ok d mX11_stands n0 Q n c w 33 (l0 :: l1 :: some (.int x) :: ls) st M = ok d mX11_stands n0 Q n c w 34 (l0 :: l1 :: some (.int x) :: ls) (.int x :: st) M := ok_r rfl rfl
theorem sX11_stands_34 : ok d mX11_stands n0 Q n c w 34 ls st M = ok d mX11_stands n0 Q n c w 35 ls (.int 0 :: st) M := ok_r rfl (by rw [← ic_0]; rfl)
theorem sX11_stands_35 {a : Nat} {i x : Int32} : ok d mX11_stands n0 Q n c w 35 ls (.int x :: .int i :: .ref a :: st) M = (am_iw n a 1 i ∧ ok d mX11_stands n0 Q n c w 36 ls st (sI M a i.toNatClampNeg x)) := ok_r rfl rfl
theorem sX11_stands_36 {x : Nat} : ok d mX11_stands n0 Q n c w 36 (some (.ref x) :: ls) st M = ok d mX11_stands n0 Q n c w 37 (some (.ref x) :: ls) (.ref x :: st) M := ok_r rfl rfl
theorem sX11_stands_37 {a : Nat} : ok d mX11_stands n0 Q n c w 37 ls (.ref a :: st) M = (am_ob n a 11 ∧ ok d mX11_stands n0 Q n c w 40 ls (am_rv (gR M a 35) :: st) M) := ok_get (q := (11, 35, 2, true, 1230)) rfl rfl rfl rfl
theorem sX11_stands_40 {l0 l1 : Option Value} {x : Int32} : ok d mX11_stands n0 Q n c w 40 (l0 :: l1 :: some (.int x) :: ls) st M = ok d mX11_stands n0 Q n c w 41 (l0 :: l1 :: some (.int x) :: ls) (.int x :: st) M := ok_r rfl rfl
theorem sX11_stands_41 : ok d mX11_stands n0 Q n c w 41 ls st M = ok d mX11_stands n0 Q n c w 42 ls (.int (-1) :: st) M := ok_r rfl (by rw [← ic_m1]; rfl)
theorem sX11_stands_42 {a : Nat} {i x : Int32} : ok d mX11_stands n0 Q n c w 42 ls (.int x :: .int i :: .ref a :: st) M = (am_iw n a 1 i ∧ ok d mX11_stands n0 Q n c w 43 ls st (sI M a i.toNatClampNeg x)) := ok_r rfl rfl
theorem sX11_stands_43 {x : Nat} : ok d mX11_stands n0 Q n c w 43 (some (.ref x) :: ls) st M = ok d mX11_stands n0 Q n c w 44 (some (.ref x) :: ls) (.ref x :: st) M := ok_r rfl rfl
theorem sX11_stands_44 {a : Nat} : ok d mX11_stands n0 Q n c w 44 ls (.ref a :: st) M = (am_ob n a 11 ∧ ok d mX11_stands n0 Q n c w 47 ls (am_rv (gR M a 36) :: st) M) := ok_get (q := (11, 36, 2, true, 1231)) rfl rfl rfl rfl
theorem sX11_stands_47 {l0 l1 : Option Value} {x : Int32} : ok d mX11_stands n0 Q n c w 47 (l0 :: l1 :: some (.int x) :: ls) st M = ok d mX11_stands n0 Q n c w 48 (l0 :: l1 :: some (.int x) :: ls) (.int x :: st) M := ok_r rfl rfl
theorem sX11_stands_48 : ok d mX11_stands n0 Q n c w 48 ls st M = ok d mX11_stands n0 Q n c w 49 ls (.int 0 :: st) M := ok_r rfl (by rw [← ic_0]; rfl)
theorem sX11_stands_49 {a : Nat} {i x : Int32} : ok d mX11_stands n0 Q n c w 49 ls (.int x :: .int i :: .ref a :: st) M = (am_iw n a 1 i ∧ ok d mX11_stands n0 Q n c w 50 ls st (sI M a i.toNatClampNeg x)) := ok_r rfl rfl
theorem sX11_stands_50 {l0 l1 : Option Value} {x : Int32} : ok d mX11_stands n0 Q n c w 50 (l0 :: l1 :: some (.int x) :: ls) st M = ok d mX11_stands n0 Q n c w 53 (l0 :: am_kl l1 :: some (.int (x + 1)) :: ls) st M := ok_inc (k := 2) rfl rfl ic_1 (by decide) rfl rfl
theorem sX11_stands_53 : ok d mX11_stands n0 Q n c w 53 ls st M = ok d mX11_stands n0 Q n c w 2 ls st M := ok_got (pc := 53) (off := (-51)) rfl 2 (by decide)
theorem sX11_stands_56 : ok d mX11_stands n0 Q n c w 56 ls st M = ok d mX11_stands n0 Q n c w 57 ls (.int 0 :: st) M := ok_r rfl (by rw [← ic_0]; rfl)
theorem sX11_stands_57 {l0 l1 l2 : Option Value} {x : Int32} : ok d mX11_stands n0 Q n c w 57 (l0 :: l1 :: l2 :: ls) (.int x :: st) M = ok d mX11_stands n0 Q n c w 58 (l0 :: am_kl l1 :: some (.int x) :: ls) st M := ok_ist (k := 2) rfl (Or.inr ⟨_, rfl, rfl⟩) (by decide) rfl rfl
theorem sX11_stands_58 {l0 l1 : Option Value} {x : Int32} : ok d mX11_stands n0 Q n c w 58 (l0 :: l1 :: some (.int x) :: ls) st M = ok d mX11_stands n0 Q n c w 59 (l0 :: l1 :: some (.int x) :: ls) (.int x :: st) M := ok_r rfl rfl
theorem sX11_stands_59 {l0 : Option Value} {x : Nat} : ok d mX11_stands n0 Q n c w 59 (l0 :: some (.ref x) :: ls) st M = ok d mX11_stands n0 Q n c w 60 (l0 :: some (.ref x) :: ls) (.ref x :: st) M := ok_r rfl rfl
theorem sX11_stands_60 : ok d mX11_stands n0 Q n c w 60 ls st M = ok d mX11_stands n0 Q n c w 62 ls (.int 36 :: st) M := ok_r rfl (by rw [← bc_36]; rfl)
theorem sX11_stands_62 {a : Nat} {i : Int32} : ok d mX11_stands n0 Q n c w 62 ls (.int i :: .ref a :: st) M = (am_in n M a 1 i ∧ ok d mX11_stands n0 Q n c w 63 ls (.int (gI M a i.toNatClampNeg) :: st) M) := ok_r rfl rfl
theorem sX11_stands_63 {x z : Int32} : ok d mX11_stands n0 Q n c w 63 ls (.int z :: .int x :: st) M = ((z ≤ x → ok d mX11_stands n0 Q n c w 199 ls st M) ∧ (¬ (z ≤ x) → ok d mX11_stands n0 Q n c w 66 ls st M)) := ok_ico (pc := 63) (off := 136) (k := .ge) rfl 199 (by decide)
theorem sX11_stands_66 {l0 : Option Value} {x : Nat} : ok d mX11_stands n0 Q n c w 66 (l0 :: some (.ref x) :: ls) st M = ok d mX11_stands n0 Q n c w 67 (l0 :: some (.ref x) :: ls) (.ref x :: st) M := ok_r rfl rfl
theorem sX11_stands_67 : ok d mX11_stands n0 Q n c w 67 ls st M = ok d mX11_stands n0 Q n c w 68 ls (.int 3 :: st) M := ok_r rfl (by rw [← ic_3]; rfl)
theorem sX11_stands_68 {l0 l1 : Option Value} {x : Int32} : ok d mX11_stands n0 Q n c w 68 (l0 :: l1 :: some (.int x) :: ls) st M = ok d mX11_stands n0 Q n c w 69 (l0 :: l1 :: some (.int x) :: ls) (.int x :: st) M := ok_r rfl rfl
theorem sX11_stands_69 {x z : Int32} : ok d mX11_stands n0 Q n c w 69 ls (.int z :: .int x :: st) M = ok d mX11_stands n0 Q n c w 70 ls (.int (x * z) :: st) M := ok_r rfl rfl
theorem sX11_stands_70 : ok d mX11_stands n0 Q n c w 70 ls st M = ok d mX11_stands n0 Q n c w 71 ls (.int 1 :: st) M := ok_r rfl (by rw [← ic_1]; rfl)
theorem sX11_stands_71 {x z : Int32} : ok d mX11_stands n0 Q n c w 71 ls (.int z :: .int x :: st) M = ok d mX11_stands n0 Q n c w 72 ls (.int (x + z) :: st) M := ok_r rfl rfl
theorem sX11_stands_72 {a : Nat} {i : Int32} : ok d mX11_stands n0 Q n c w 72 ls (.int i :: .ref a :: st) M = (am_in n M a 1 i ∧ ok d mX11_stands n0 Q n c w 73 ls (.int (gI M a i.toNatClampNeg) :: st) M) := ok_r rfl rfl
theorem sX11_stands_73 {l0 l1 l2 l3 : Option Value} {x : Int32} : ok d mX11_stands n0 Q n c w 73 (l0 :: l1 :: l2 :: l3 :: ls) (.int x :: st) M = ok d mX11_stands n0 Q n c w 74 (l0 :: l1 :: am_kl l2 :: some (.int x) :: ls) st M := ok_ist (k := 3) rfl (Or.inr ⟨_, rfl, rfl⟩) (by decide) rfl rfl
theorem sX11_stands_74 {l0 : Option Value} {x : Nat} : ok d mX11_stands n0 Q n c w 74 (l0 :: some (.ref x) :: ls) st M = ok d mX11_stands n0 Q n c w 75 (l0 :: some (.ref x) :: ls) (.ref x :: st) M := ok_r rfl rfl
theorem sX11_stands_75 : ok d mX11_stands n0 Q n c w 75 ls st M = ok d mX11_stands n0 Q n c w 76 ls (.int 3 :: st) M := ok_r rfl (by rw [← ic_3]; rfl)
theorem sX11_stands_76 {l0 l1 : Option Value} {x : Int32} : ok d mX11_stands n0 Q n c w 76 (l0 :: l1 :: some (.int x) :: ls) st M = ok d mX11_stands n0 Q n c w 77 (l0 :: l1 :: some (.int x) :: ls) (.int x :: st) M := ok_r rfl rfl
theorem sX11_stands_77 {x z : Int32} : ok d mX11_stands n0 Q n c w 77 ls (.int z :: .int x :: st) M = ok d mX11_stands n0 Q n c w 78 ls (.int (x * z) :: st) M := ok_r rfl rfl
theorem sX11_stands_78 : ok d mX11_stands n0 Q n c w 78 ls st M = ok d mX11_stands n0 Q n c w 79 ls (.int 2 :: st) M := ok_r rfl (by rw [← ic_2]; rfl)
theorem sX11_stands_79 {x z : Int32} : ok d mX11_stands n0 Q n c w 79 ls (.int z :: .int x :: st) M = ok d mX11_stands n0 Q n c w 80 ls (.int (x + z) :: st) M := ok_r rfl rfl
theorem sX11_stands_80 {a : Nat} {i : Int32} : ok d mX11_stands n0 Q n c w 80 ls (.int i :: .ref a :: st) M = (am_in n M a 1 i ∧ ok d mX11_stands n0 Q n c w 81 ls (.int (gI M a i.toNatClampNeg) :: st) M) := ok_r rfl rfl
theorem sX11_stands_81 {l0 l1 l2 l3 l4 : Option Value} {x : Int32} : ok d mX11_stands n0 Q n c w 81 (l0 :: l1 :: l2 :: l3 :: l4 :: ls) (.int x :: st) M = ok d mX11_stands n0 Q n c w 83 (l0 :: l1 :: l2 :: am_kl l3 :: some (.int x) :: ls) st M := ok_ist (k := 4) rfl (Or.inl rfl) (by decide) rfl rfl
theorem sX11_stands_83 {l0 : Option Value} {x : Nat} : ok d mX11_stands n0 Q n c w 83 (l0 :: some (.ref x) :: ls) st M = ok d mX11_stands n0 Q n c w 84 (l0 :: some (.ref x) :: ls) (.ref x :: st) M := ok_r rfl rfl
theorem sX11_stands_84 : ok d mX11_stands n0 Q n c w 84 ls st M = ok d mX11_stands n0 Q n c w 85 ls (.int 3 :: st) M := ok_r rfl (by rw [← ic_3]; rfl)
theorem sX11_stands_85 {l0 l1 : Option Value} {x : Int32} : ok d mX11_stands n0 Q n c w 85 (l0 :: l1 :: some (.int x) :: ls) st M = ok d mX11_stands n0 Q n c w 86 (l0 :: l1 :: some (.int x) :: ls) (.int x :: st) M := ok_r rfl rfl
theorem sX11_stands_86 {x z : Int32} : ok d mX11_stands n0 Q n c w 86 ls (.int z :: .int x :: st) M = ok d mX11_stands n0 Q n c w 87 ls (.int (x * z) :: st) M := ok_r rfl rfl
theorem sX11_stands_87 {a : Nat} {i : Int32} : ok d mX11_stands n0 Q n c w 87 ls (.int i :: .ref a :: st) M = (am_in n M a 1 i ∧ ok d mX11_stands n0 Q n c w 88 ls (.int (gI M a i.toNatClampNeg) :: st) M) := ok_r rfl rfl
theorem sX11_stands_88 {x : Int32} : ok d mX11_stands n0 Q n c w 88 ls (.int x :: st) M = (((x = 0 → ok d mX11_stands n0 Q n c w 120 ls st M) ∧ (x = 1 → ok d mX11_stands n0 Q n c w 131 ls st M) ∧ (x = 2 → ok d mX11_stands n0 Q n c w 144 ls st M) ∧ (x = 3 → ok d mX11_stands n0 Q n c w 175 ls st M) ∧ True) ∧ (x.toInt < 0 ∨ 3 < x.toInt → ok d mX11_stands n0 Q n c w 186 ls st M)) := ok_tab (pc := 88) (len := 32) (dflt := 98) (lo := 0) (hi := 3) (offs := #[32, 43, 56, 87]) rfl 186 (by decide) (by decide) (am_tsw_c (pc := 88) (k := 0) (k' := 1) (o := 32) (v := 0) 120 (by decide) (by decide) (by decide) (am_tsw_c (pc := 88) (k := 1) (k' := 2) (o := 43) (v := 1) 131 (by decide) (by decide) (by decide) (am_tsw_c (pc := 88) (k := 2) (k' := 3) (o := 56) (v := 2) 144 (by decide) (by decide) (by decide) (am_tsw_c (pc := 88) (k := 3) (k' := 4) (o := 87) (v := 3) 175 (by decide) (by decide) (by decide) rfl))))
theorem sX11_stands_120 {x : Nat} : ok d mX11_stands n0 Q n c w 120 (some (.ref x) :: ls) st M = ok d mX11_stands n0 Q n c w 121 (some (.ref x) :: ls) (.ref x :: st) M := ok_r rfl rfl
theorem sX11_stands_121 {a : Nat} : ok d mX11_stands n0 Q n c w 121 ls (.ref a :: st) M = (am_ob n a 11 ∧ ok d mX11_stands n0 Q n c w 124 ls (am_rv (gR M a 31) :: st) M) := ok_get (q := (11, 31, 2, true, 1226)) rfl rfl rfl rfl
theorem sX11_stands_124 {l0 l1 l2 : Option Value} {x : Int32} : ok d mX11_stands n0 Q n c w 124 (l0 :: l1 :: l2 :: some (.int x) :: ls) st M = ok d mX11_stands n0 Q n c w 125 (l0 :: l1 :: l2 :: some (.int x) :: ls) (.int x :: st) M := ok_r rfl rfl
theorem sX11_stands_125 {l0 l1 l2 l3 : Option Value} {x : Int32} : ok d mX11_stands n0 Q n c w 125 (l0 :: l1 :: l2 :: l3 :: some (.int x) :: ls) st M = ok d mX11_stands n0 Q n c w 127 (l0 :: l1 :: l2 :: l3 :: some (.int x) :: ls) (.int x :: st) M := ok_r rfl rfl
theorem sX11_stands_127 {a : Nat} {i x : Int32} : ok d mX11_stands n0 Q n c w 127 ls (.int x :: .int i :: .ref a :: st) M = (am_iw n a 1 i ∧ ok d mX11_stands n0 Q n c w 128 ls st (sI M a i.toNatClampNeg x)) := ok_r rfl rfl
theorem sX11_stands_128 : ok d mX11_stands n0 Q n c w 128 ls st M = ok d mX11_stands n0 Q n c w 193 ls st M := ok_got (pc := 128) (off := 65) rfl 193 (by decide)
theorem sX11_stands_131 {x : Nat} : ok d mX11_stands n0 Q n c w 131 (some (.ref x) :: ls) st M = ok d mX11_stands n0 Q n c w 132 (some (.ref x) :: ls) (.ref x :: st) M := ok_r rfl rfl
theorem sX11_stands_132 {a : Nat} : ok d mX11_stands n0 Q n c w 132 ls (.ref a :: st) M = (am_ob n a 11 ∧ ok d mX11_stands n0 Q n c w 135 ls (am_rv (gR M a 32) :: st) M) := ok_get (q := (11, 32, 2, true, 1227)) rfl rfl rfl rfl
theorem sX11_stands_135 {l0 l1 l2 : Option Value} {x : Int32} : ok d mX11_stands n0 Q n c w 135 (l0 :: l1 :: l2 :: some (.int x) :: ls) st M = ok d mX11_stands n0 Q n c w 136 (l0 :: l1 :: l2 :: some (.int x) :: ls) (.int x :: st) M := ok_r rfl rfl
theorem sX11_stands_136 {x : Nat} {z : Int32} : ok d mX11_stands n0 Q n c w 136 ls (.int z :: .ref x :: st) M = ok d mX11_stands n0 Q n c w 137 ls (.int z :: .ref x :: .int z :: .ref x :: st) M := ok_r rfl rfl
theorem sX11_stands_137 {a : Nat} {i : Int32} : ok d mX11_stands n0 Q n c w 137 ls (.int i :: .ref a :: st) M = (am_in n M a 1 i ∧ ok d mX11_stands n0 Q n c w 138 ls (.int (gI M a i.toNatClampNeg) :: st) M) := ok_r rfl rfl
theorem sX11_stands_138 : ok d mX11_stands n0 Q n c w 138 ls st M = ok d mX11_stands n0 Q n c w 139 ls (.int 1 :: st) M := ok_r rfl (by rw [← ic_1]; rfl)
theorem sX11_stands_139 {x z : Int32} : ok d mX11_stands n0 Q n c w 139 ls (.int z :: .int x :: st) M = ok d mX11_stands n0 Q n c w 140 ls (.int (x + z) :: st) M := ok_r rfl rfl
theorem sX11_stands_140 {a : Nat} {i x : Int32} : ok d mX11_stands n0 Q n c w 140 ls (.int x :: .int i :: .ref a :: st) M = (am_iw n a 1 i ∧ ok d mX11_stands n0 Q n c w 141 ls st (sI M a i.toNatClampNeg x)) := ok_r rfl rfl
theorem sX11_stands_141 : ok d mX11_stands n0 Q n c w 141 ls st M = ok d mX11_stands n0 Q n c w 193 ls st M := ok_got (pc := 141) (off := 52) rfl 193 (by decide)
theorem sX11_stands_144 {x : Nat} : ok d mX11_stands n0 Q n c w 144 (some (.ref x) :: ls) st M = ok d mX11_stands n0 Q n c w 145 (some (.ref x) :: ls) (.ref x :: st) M := ok_r rfl rfl
theorem sX11_stands_145 {a : Nat} : ok d mX11_stands n0 Q n c w 145 ls (.ref a :: st) M = (am_ob n a 11 ∧ ok d mX11_stands n0 Q n c w 148 ls (am_rv (gR M a 33) :: st) M) := ok_get (q := (11, 33, 2, true, 1228)) rfl rfl rfl rfl
theorem sX11_stands_148 {l0 l1 l2 : Option Value} {x : Int32} : ok d mX11_stands n0 Q n c w 148 (l0 :: l1 :: l2 :: some (.int x) :: ls) st M = ok d mX11_stands n0 Q n c w 149 (l0 :: l1 :: l2 :: some (.int x) :: ls) (.int x :: st) M := ok_r rfl rfl
theorem sX11_stands_149 {x : Nat} {z : Int32} : ok d mX11_stands n0 Q n c w 149 ls (.int z :: .ref x :: st) M = ok d mX11_stands n0 Q n c w 150 ls (.int z :: .ref x :: .int z :: .ref x :: st) M := ok_r rfl rfl
theorem sX11_stands_150 {a : Nat} {i : Int32} : ok d mX11_stands n0 Q n c w 150 ls (.int i :: .ref a :: st) M = (am_in n M a 1 i ∧ ok d mX11_stands n0 Q n c w 151 ls (.int (gI M a i.toNatClampNeg) :: st) M) := ok_r rfl rfl
theorem sX11_stands_151 : ok d mX11_stands n0 Q n c w 151 ls st M = ok d mX11_stands n0 Q n c w 152 ls (.int 1 :: st) M := ok_r rfl (by rw [← ic_1]; rfl)
theorem sX11_stands_152 {x z : Int32} : ok d mX11_stands n0 Q n c w 152 ls (.int z :: .int x :: st) M = ok d mX11_stands n0 Q n c w 153 ls (.int (x + z) :: st) M := ok_r rfl rfl
theorem sX11_stands_153 {a : Nat} {i x : Int32} : ok d mX11_stands n0 Q n c w 153 ls (.int x :: .int i :: .ref a :: st) M = (am_iw n a 1 i ∧ ok d mX11_stands n0 Q n c w 154 ls st (sI M a i.toNatClampNeg x)) := ok_r rfl rfl
theorem sX11_stands_154 {x : Nat} : ok d mX11_stands n0 Q n c w 154 (some (.ref x) :: ls) st M = ok d mX11_stands n0 Q n c w 155 (some (.ref x) :: ls) (.ref x :: st) M := ok_r rfl rfl
theorem sX11_stands_155 {a : Nat} : ok d mX11_stands n0 Q n c w 155 ls (.ref a :: st) M = (am_ob n a 11 ∧ ok d mX11_stands n0 Q n c w 158 ls (am_rv (gR M a 34) :: st) M) := ok_get (q := (11, 34, 2, true, 1229)) rfl rfl rfl rfl
theorem sX11_stands_158 {l0 l1 l2 : Option Value} {x : Int32} : ok d mX11_stands n0 Q n c w 158 (l0 :: l1 :: l2 :: some (.int x) :: ls) st M = ok d mX11_stands n0 Q n c w 159 (l0 :: l1 :: l2 :: some (.int x) :: ls) (.int x :: st) M := ok_r rfl rfl
theorem sX11_stands_159 : ok d mX11_stands n0 Q n c w 159 ls st M = ok d mX11_stands n0 Q n c w 161 ls (.int 10 :: st) M := ok_r rfl (by rw [← bc_10]; rfl)
theorem sX11_stands_161 {x : Nat} : ok d mX11_stands n0 Q n c w 161 (some (.ref x) :: ls) st M = ok d mX11_stands n0 Q n c w 162 (some (.ref x) :: ls) (.ref x :: st) M := ok_r rfl rfl
theorem sX11_stands_162 {a : Nat} : ok d mX11_stands n0 Q n c w 162 ls (.ref a :: st) M = (am_ob n a 11 ∧ ok d mX11_stands n0 Q n c w 165 ls (am_rv (gR M a 34) :: st) M) := ok_get (q := (11, 34, 2, true, 1229)) rfl rfl rfl rfl
theorem sX11_stands_165 {l0 l1 l2 : Option Value} {x : Int32} : ok d mX11_stands n0 Q n c w 165 (l0 :: l1 :: l2 :: some (.int x) :: ls) st M = ok d mX11_stands n0 Q n c w 166 (l0 :: l1 :: l2 :: some (.int x) :: ls) (.int x :: st) M := ok_r rfl rfl
theorem sX11_stands_166 {a : Nat} {i : Int32} : ok d mX11_stands n0 Q n c w 166 ls (.int i :: .ref a :: st) M = (am_in n M a 1 i ∧ ok d mX11_stands n0 Q n c w 167 ls (.int (gI M a i.toNatClampNeg) :: st) M) := ok_r rfl rfl
theorem sX11_stands_167 {x z : Int32} : ok d mX11_stands n0 Q n c w 167 ls (.int z :: .int x :: st) M = ok d mX11_stands n0 Q n c w 168 ls (.int (x * z) :: st) M := ok_r rfl rfl
theorem sX11_stands_168 {l0 l1 l2 l3 : Option Value} {x : Int32} : ok d mX11_stands n0 Q n c w 168 (l0 :: l1 :: l2 :: l3 :: some (.int x) :: ls) st M = ok d mX11_stands n0 Q n c w 170 (l0 :: l1 :: l2 :: l3 :: some (.int x) :: ls) (.int x :: st) M := ok_r rfl rfl
theorem sX11_stands_170 {x z : Int32} : ok d mX11_stands n0 Q n c w 170 ls (.int z :: .int x :: st) M = ok d mX11_stands n0 Q n c w 171 ls (.int (x + z) :: st) M := ok_r rfl rfl
theorem sX11_stands_171 {a : Nat} {i x : Int32} : ok d mX11_stands n0 Q n c w 171 ls (.int x :: .int i :: .ref a :: st) M = (am_iw n a 1 i ∧ ok d mX11_stands n0 Q n c w 172 ls st (sI M a i.toNatClampNeg x)) := ok_r rfl rfl
theorem sX11_stands_172 : ok d mX11_stands n0 Q n c w 172 ls st M = ok d mX11_stands n0 Q n c w 193 ls st M := ok_got (pc := 172) (off := 21) rfl 193 (by decide)
theorem sX11_stands_175 {x : Nat} : ok d mX11_stands n0 Q n c w 175 (some (.ref x) :: ls) st M = ok d mX11_stands n0 Q n c w 176 (some (.ref x) :: ls) (.ref x :: st) M := ok_r rfl rfl
theorem sX11_stands_176 {a : Nat} : ok d mX11_stands n0 Q n c w 176 ls (.ref a :: st) M = (am_ob n a 11 ∧ ok d mX11_stands n0 Q n c w 179 ls (am_rv (gR M a 35) :: st) M) := ok_get (q := (11, 35, 2, true, 1230)) rfl rfl rfl rfl
theorem sX11_stands_179 {l0 l1 l2 : Option Value} {x : Int32} : ok d mX11_stands n0 Q n c w 179 (l0 :: l1 :: l2 :: some (.int x) :: ls) st M = ok d mX11_stands n0 Q n c w 180 (l0 :: l1 :: l2 :: some (.int x) :: ls) (.int x :: st) M := ok_r rfl rfl
theorem sX11_stands_180 {l0 l1 l2 l3 : Option Value} {x : Int32} : ok d mX11_stands n0 Q n c w 180 (l0 :: l1 :: l2 :: l3 :: some (.int x) :: ls) st M = ok d mX11_stands n0 Q n c w 182 (l0 :: l1 :: l2 :: l3 :: some (.int x) :: ls) (.int x :: st) M := ok_r rfl rfl
theorem sX11_stands_182 {a : Nat} {i x : Int32} : ok d mX11_stands n0 Q n c w 182 ls (.int x :: .int i :: .ref a :: st) M = (am_iw n a 1 i ∧ ok d mX11_stands n0 Q n c w 183 ls st (sI M a i.toNatClampNeg x)) := ok_r rfl rfl
theorem sX11_stands_183 : ok d mX11_stands n0 Q n c w 183 ls st M = ok d mX11_stands n0 Q n c w 193 ls st M := ok_got (pc := 183) (off := 10) rfl 193 (by decide)
theorem sX11_stands_186 {x : Nat} : ok d mX11_stands n0 Q n c w 186 (some (.ref x) :: ls) st M = ok d mX11_stands n0 Q n c w 187 (some (.ref x) :: ls) (.ref x :: st) M := ok_r rfl rfl
theorem sX11_stands_187 {a : Nat} : ok d mX11_stands n0 Q n c w 187 ls (.ref a :: st) M = (am_ob n a 11 ∧ ok d mX11_stands n0 Q n c w 190 ls (am_rv (gR M a 36) :: st) M) := ok_get (q := (11, 36, 2, true, 1231)) rfl rfl rfl rfl
theorem sX11_stands_190 {l0 l1 l2 : Option Value} {x : Int32} : ok d mX11_stands n0 Q n c w 190 (l0 :: l1 :: l2 :: some (.int x) :: ls) st M = ok d mX11_stands n0 Q n c w 191 (l0 :: l1 :: l2 :: some (.int x) :: ls) (.int x :: st) M := ok_r rfl rfl
theorem sX11_stands_191 : ok d mX11_stands n0 Q n c w 191 ls st M = ok d mX11_stands n0 Q n c w 192 ls (.int 1 :: st) M := ok_r rfl (by rw [← ic_1]; rfl)
theorem sX11_stands_192 {a : Nat} {i x : Int32} : ok d mX11_stands n0 Q n c w 192 ls (.int x :: .int i :: .ref a :: st) M = (am_iw n a 1 i ∧ ok d mX11_stands n0 Q n c w 193 ls st (sI M a i.toNatClampNeg x)) := ok_r rfl rfl
theorem sX11_stands_193 {l0 l1 : Option Value} {x : Int32} : ok d mX11_stands n0 Q n c w 193 (l0 :: l1 :: some (.int x) :: ls) st M = ok d mX11_stands n0 Q n c w 196 (l0 :: am_kl l1 :: some (.int (x + 1)) :: ls) st M := ok_inc (k := 2) rfl rfl ic_1 (by decide) rfl rfl
theorem sX11_stands_196 : ok d mX11_stands n0 Q n c w 196 ls st M = ok d mX11_stands n0 Q n c w 58 ls st M := ok_got (pc := 196) (off := (-138)) rfl 58 (by decide)
theorem sX11_stands_199 : ok d mX11_stands n Q n 0 0 199 ls [] M = Q none M := (ok_reV rfl rfl).trans (am_andT ⟨rfl, rfl, rfl⟩)
theorem eX11_stands {a0 : Nat} {a1 : Nat} {n : Nat} {M : am_M} {Q : am_Q} : am_big (d + 1) mX11_stands [.ref a0, .ref a1] n M Q = ok d mX11_stands n Q n 0 0 0 [some (.ref a0), some (.ref a1), none, none, none] [] M := rfl
theorem sX11_upon0_0 : ok d mX11_upon0 n0 Q n c w 0 ls st M = ok d mX11_upon0 n0 Q n c w 1 ls (.int 0 :: st) M := ok_r rfl (by rw [← ic_0]; rfl)
theorem sX11_upon0_1 {l0 l1 l2 : Option Value} {x : Int32} : ok d mX11_upon0 n0 Q n c w 1 (l0 :: l1 :: l2 :: ls) (.int x :: st) M = ok d mX11_upon0 n0 Q n c w 2 (l0 :: am_kl l1 :: some (.int x) :: ls) st M := ok_ist (k := 2) rfl (Or.inr ⟨_, rfl, rfl⟩) (by decide) rfl rfl
theorem sX11_upon0_2 : ok d mX11_upon0 n0 Q n c w 2 ls st M = ok d mX11_upon0 n0 Q n c w 3 ls (.int 0 :: st) M := ok_r rfl (by rw [← ic_0]; rfl)
theorem sX11_upon0_3 {l0 l1 l2 l3 : Option Value} {x : Int32} : ok d mX11_upon0 n0 Q n c w 3 (l0 :: l1 :: l2 :: l3 :: ls) (.int x :: st) M = ok d mX11_upon0 n0 Q n c w 4 (l0 :: l1 :: am_kl l2 :: some (.int x) :: ls) st M := ok_ist (k := 3) rfl (Or.inr ⟨_, rfl, rfl⟩) (by decide) rfl rfl
theorem sX11_upon0_4 {l0 l1 l2 : Option Value} {x : Int32} : ok d mX11_upon0 n0 Q n c w 4 (l0 :: l1 :: l2 :: some (.int x) :: ls) st M = ok d mX11_upon0 n0 Q n c w 5 (l0 :: l1 :: l2 :: some (.int x) :: ls) (.int x :: st) M := ok_r rfl rfl
theorem sX11_upon0_5 : ok d mX11_upon0 n0 Q n c w 5 ls st M = ok d mX11_upon0 n0 Q n c w 7 ls (.int 6 :: st) M := ok_r rfl (by rw [← bc_6]; rfl)
theorem sX11_upon0_7 {x z : Int32} : ok d mX11_upon0 n0 Q n c w 7 ls (.int z :: .int x :: st) M = ((z ≤ x → ok d mX11_upon0 n0 Q n c w 36 ls st M) ∧ (¬ (z ≤ x) → ok d mX11_upon0 n0 Q n c w 10 ls st M)) := ok_ico (pc := 7) (off := 29) (k := .ge) rfl 36 (by decide)
theorem sX11_upon0_10 {l0 l1 : Option Value} {x : Int32} : ok d mX11_upon0 n0 Q n c w 10 (l0 :: l1 :: some (.int x) :: ls) st M = ok d mX11_upon0 n0 Q n c w 11 (l0 :: l1 :: some (.int x) :: ls) (.int x :: st) M := ok_r rfl rfl
theorem sX11_upon0_11 {x : Nat} : ok d mX11_upon0 n0 Q n c w 11 (some (.ref x) :: ls) st M = ok d mX11_upon0 n0 Q n c w 12 (some (.ref x) :: ls) (.ref x :: st) M := ok_r rfl rfl
theorem sX11_upon0_12 {a : Nat} : ok d mX11_upon0 n0 Q n c w 12 ls (.ref a :: st) M = (am_ob n a 11 ∧ ok d mX11_upon0 n0 Q n c w 15 ls (am_rv (gR M a 35) :: st) M) := ok_get (q := (11, 35, 2, true, 1230)) rfl rfl rfl rfl
theorem sX11_upon0_15 {l0 l1 l2 : Option Value} {x : Int32} : ok d mX11_upon0 n0 Q n c w 15 (l0 :: l1 :: l2 :: some (.int x) :: ls) st M = ok d mX11_upon0 n0 Q n c w 16 (l0 :: l1 :: l2 :: some (.int x) :: ls) (.int x :: st) M := ok_r rfl rfl
theorem sX11_upon0_16 {a : Nat} {i : Int32} : ok d mX11_upon0 n0 Q n c w 16 ls (.int i :: .ref a :: st) M = (am_in n M a 1 i ∧ ok d mX11_upon0 n0 Q n c w 17 ls (.int (gI M a i.toNatClampNeg) :: st) M) := ok_r rfl rfl
theorem sX11_upon0_17 {l0 : Option Value} {x : Int32} : ok d mX11_upon0 n0 Q n c w 17 (l0 :: some (.int x) :: ls) st M = ok d mX11_upon0 n0 Q n c w 18 (l0 :: some (.int x) :: ls) (.int x :: st) M := ok_r rfl rfl
theorem sX11_upon0_18 {x z : Int32} : ok d mX11_upon0 n0 Q n c w 18 ls (.int z :: .int x :: st) M = ((¬ x = z → ok d mX11_upon0 n0 Q n c w 27 ls st M) ∧ (¬ (¬ x = z) → ok d mX11_upon0 n0 Q n c w 21 ls st M)) := ok_ico (pc := 18) (off := 9) (k := .ne) rfl 27 (by decide)
theorem sX11_upon0_21 : ok d mX11_upon0 n0 Q n c w 21 ls st M = ok d mX11_upon0 n0 Q n c w 22 ls (.int 1 :: st) M := ok_r rfl (by rw [← ic_1]; rfl)
theorem sX11_upon0_22 {l0 l1 l2 : Option Value} {x : Int32} : ok d mX11_upon0 n0 Q n c w 22 (l0 :: l1 :: l2 :: some (.int x) :: ls) st M = ok d mX11_upon0 n0 Q n c w 23 (l0 :: l1 :: l2 :: some (.int x) :: ls) (.int x :: st) M := ok_r rfl rfl
theorem sX11_upon0_23 {x z : Int32} : ok d mX11_upon0 n0 Q n c w 23 ls (.int z :: .int x :: st) M = ok d mX11_upon0 n0 Q n c w 24 ls (.int (x <<< (z &&& 31)) :: st) M := ok_r rfl rfl
theorem sX11_upon0_24 : ok d mX11_upon0 n0 Q n c w 24 ls st M = ok d mX11_upon0 n0 Q n c w 28 ls st M := ok_got (pc := 24) (off := 4) rfl 28 (by decide)
theorem sX11_upon0_27 : ok d mX11_upon0 n0 Q n c w 27 ls st M = ok d mX11_upon0 n0 Q n c w 28 ls (.int 0 :: st) M := ok_r rfl (by rw [← ic_0]; rfl)
theorem sX11_upon0_28 {x z : Int32} : ok d mX11_upon0 n0 Q n c w 28 ls (.int z :: .int x :: st) M = ok d mX11_upon0 n0 Q n c w 29 ls (.int (x ||| z) :: st) M := ok_r rfl rfl
theorem sX11_upon0_29 {l0 l1 l2 : Option Value} {x : Int32} : ok d mX11_upon0 n0 Q n c w 29 (l0 :: l1 :: l2 :: ls) (.int x :: st) M = ok d mX11_upon0 n0 Q n c w 30 (l0 :: am_kl l1 :: some (.int x) :: ls) st M := ok_ist (k := 2) rfl (Or.inr ⟨_, rfl, rfl⟩) (by decide) rfl rfl
theorem sX11_upon0_30 {l0 l1 l2 : Option Value} {x : Int32} : ok d mX11_upon0 n0 Q n c w 30 (l0 :: l1 :: l2 :: some (.int x) :: ls) st M = ok d mX11_upon0 n0 Q n c w 33 (l0 :: l1 :: am_kl l2 :: some (.int (x + 1)) :: ls) st M := ok_inc (k := 3) rfl rfl ic_1 (by decide) rfl rfl
theorem sX11_upon0_33 : ok d mX11_upon0 n0 Q n c w 33 ls st M = ok d mX11_upon0 n0 Q n c w 4 ls st M := ok_got (pc := 33) (off := (-29)) rfl 4 (by decide)
theorem sX11_upon0_36 {l0 l1 : Option Value} {x : Int32} : ok d mX11_upon0 n0 Q n c w 36 (l0 :: l1 :: some (.int x) :: ls) st M = ok d mX11_upon0 n0 Q n c w 37 (l0 :: l1 :: some (.int x) :: ls) (.int x :: st) M := ok_r rfl rfl
theorem sX11_upon0_37 {x : Int32} : ok d mX11_upon0 n Q n 0 0 37 ls [.int x] M = Q (some (.int x)) M := ok_reI rfl rfl ⟨rfl, rfl, rfl⟩
theorem eX11_upon0 {a0 : Nat} {a1 : Int32} {n : Nat} {M : am_M} {Q : am_Q} : am_big (d + 1) mX11_upon0 [.ref a0, .int a1] n M Q = ok d mX11_upon0 n Q n 0 0 0 [some (.ref a0), some (.int a1), none, none] [] M := rfl
theorem sX11_isPart_0 {x : Int32} : ok d mX11_isPart n0 Q n c w 0 (some (.int x) :: ls) st M = ok d mX11_isPart n0 Q n c w 1 (some (.int x) :: ls) (.int x :: st) M := ok_r rfl rfl
theorem sX11_isPart_1 {x : Int32} : ok d mX11_isPart n0 Q n c w 1 ls (.int x :: st) M = ok d mX11_isPart n0 Q n c w 2 ls (.long x.toInt64 :: st) M := ok_r rfl rfl
theorem sX11_isPart_2 : ok d mX11_isPart n0 Q n c w 2 ls st M = ok d mX11_isPart n0 Q n c w 3 ls (.long 0 :: st) M := ok_r rfl rfl
theorem sX11_isPart_3 : ok d mX11_isPart n0 Q n c w 3 ls st M = ok d mX11_isPart n0 Q n c w 6 ls (.long 5 :: st) M := ok_ldcl (v := (5, 1589)) rfl rfl rfl
theorem sX11_isPart_6 {a0 : Int64} {a1 : Int64} {a2 : Int64} : ok d mX11_isPart n0 Q n 0 0 6 ls [.long a2, .long a1, .long a0] M = am_big d mX11_isIn [.long a0, .long a1, .long a2] n M (kI fun x M' => ok d mX11_isPart n0 Q n 0 0 9 ls (.int x :: []) M') := ok_sta (y := mX11_isPart) (y' := mX11_isIn) (pc := 6) (k := 241) (ps := [1386, 1387, 110, 1388]) (c := 0) (w := 0) (st := [.long a2, .long a1, .long a0]) (as := [.long a0, .long a1, .long a2]) (rest := []) (kd := 1) rfl rfl (by decide) ⟨Nat.le_of_ble_eq_true rfl, Nat.le_of_ble_eq_true rfl, Nat.le_of_ble_eq_true rfl, Nat.le_of_ble_eq_true rfl, Nat.le_of_ble_eq_true rfl⟩ rfl rfl (am_contI (Or.inr rfl) rfl)
theorem sX11_isPart_9 {x : Int32} : ok d mX11_isPart n Q n 0 0 9 ls [.int x] M = ((x = 0 ∨ x = 1) ∧ Q (some (.int x)) M) := ok_reZ rfl rfl ⟨rfl, rfl, rfl⟩
theorem eX11_isPart {a0 : Int32} {n : Nat} {M : am_M} {Q : am_Q} : am_big (d + 1) mX11_isPart [.int a0] n M Q = ok d mX11_isPart n Q n 0 0 0 [some (.int a0)] [] M := rfl
theorem sX11_isThere_0 {l0 : Option Value} {x : Int32} : ok d mX11_isThere n0 Q n c w 0 (l0 :: some (.int x) :: ls) st M = ok d mX11_isThere n0 Q n c w 1 (l0 :: some (.int x) :: ls) (.int x :: st) M := ok_r rfl rfl
theorem sX11_isThere_1 {a0 : Int32} : ok d mX11_isThere n0 Q n 0 0 1 ls [.int a0] M = am_big d mX11_isPart [.int a0] n M (kI fun x M' => ok d mX11_isThere n0 Q n 0 0 4 ls (.int x :: []) M') := ok_sta (y := mX11_isThere) (y' := mX11_isPart) (pc := 1) (k := 324) (ps := [1586, 1587, 110, 1588]) (c := 0) (w := 0) (st := [.int a0]) (as := [.int a0]) (rest := []) (kd := 1) rfl rfl (by decide) ⟨Nat.le_of_ble_eq_true rfl, Nat.le_of_ble_eq_true rfl, Nat.le_of_ble_eq_true rfl, Nat.le_of_ble_eq_true rfl, Nat.le_of_ble_eq_true rfl⟩ rfl rfl (am_contI (Or.inr rfl) rfl)
theorem sX11_isThere_4 {x : Int32} : ok d mX11_isThere n0 Q n c w 4 ls (.int x :: st) M = ((x = 0 → ok d mX11_isThere n0 Q n c w 21 ls st M) ∧ (¬ (x = 0) → ok d mX11_isThere n0 Q n c w 7 ls st M)) := ok_ifc (pc := 4) (off := 17) (k := .eq) rfl 21 (by decide)
theorem sX11_isThere_7 {x : Nat} : ok d mX11_isThere n0 Q n c w 7 (some (.ref x) :: ls) st M = ok d mX11_isThere n0 Q n c w 8 (some (.ref x) :: ls) (.ref x :: st) M := ok_r rfl rfl
theorem sX11_isThere_8 {a : Nat} : ok d mX11_isThere n0 Q n c w 8 ls (.ref a :: st) M = (am_ob n a 11 ∧ ok d mX11_isThere n0 Q n c w 11 ls (am_rv (gR M a 31) :: st) M) := ok_get (q := (11, 31, 2, true, 1226)) rfl rfl rfl rfl
theorem sX11_isThere_11 {l0 : Option Value} {x : Int32} : ok d mX11_isThere n0 Q n c w 11 (l0 :: some (.int x) :: ls) st M = ok d mX11_isThere n0 Q n c w 12 (l0 :: some (.int x) :: ls) (.int x :: st) M := ok_r rfl rfl
theorem sX11_isThere_12 {a : Nat} {i : Int32} : ok d mX11_isThere n0 Q n c w 12 ls (.int i :: .ref a :: st) M = (am_in n M a 1 i ∧ ok d mX11_isThere n0 Q n c w 13 ls (.int (gI M a i.toNatClampNeg) :: st) M) := ok_r rfl rfl
theorem sX11_isThere_13 : ok d mX11_isThere n0 Q n c w 13 ls st M = ok d mX11_isThere n0 Q n c w 14 ls (.int (-1) :: st) M := ok_r rfl (by rw [← ic_m1]; rfl)
theorem sX11_isThere_14 {x z : Int32} : ok d mX11_isThere n0 Q n c w 14 ls (.int z :: .int x :: st) M = ((x = z → ok d mX11_isThere n0 Q n c w 21 ls st M) ∧ (¬ (x = z) → ok d mX11_isThere n0 Q n c w 17 ls st M)) := ok_ico (pc := 14) (off := 7) (k := .eq) rfl 21 (by decide)
theorem sX11_isThere_17 : ok d mX11_isThere n0 Q n c w 17 ls st M = ok d mX11_isThere n0 Q n c w 18 ls (.int 1 :: st) M := ok_r rfl (by rw [← ic_1]; rfl)
theorem sX11_isThere_18 : ok d mX11_isThere n0 Q n c w 18 ls st M = ok d mX11_isThere n0 Q n c w 22 ls st M := ok_got (pc := 18) (off := 4) rfl 22 (by decide)
theorem sX11_isThere_21 : ok d mX11_isThere n0 Q n c w 21 ls st M = ok d mX11_isThere n0 Q n c w 22 ls (.int 0 :: st) M := ok_r rfl (by rw [← ic_0]; rfl)
theorem sX11_isThere_22 {x : Int32} : ok d mX11_isThere n Q n 0 0 22 ls [.int x] M = ((x = 0 ∨ x = 1) ∧ Q (some (.int x)) M) := ok_reZ rfl rfl ⟨rfl, rfl, rfl⟩
theorem eX11_isThere {a0 : Nat} {a1 : Int32} {n : Nat} {M : am_M} {Q : am_Q} : am_big (d + 1) mX11_isThere [.ref a0, .int a1] n M Q = ok d mX11_isThere n Q n 0 0 0 [some (.ref a0), some (.int a1)] [] M := rfl
theorem sX11_doesStandOn_0 {l0 : Option Value} {x : Int32} : ok d mX11_doesStandOn n0 Q n c w 0 (l0 :: some (.int x) :: ls) st M = ok d mX11_doesStandOn n0 Q n c w 1 (l0 :: some (.int x) :: ls) (.int x :: st) M := ok_r rfl rfl
theorem sX11_doesStandOn_1 {l0 l1 l2 l3 : Option Value} {x : Int32} : ok d mX11_doesStandOn n0 Q n c w 1 (l0 :: l1 :: l2 :: l3 :: ls) (.int x :: st) M = ok d mX11_doesStandOn n0 Q n c w 2 (l0 :: l1 :: am_kl l2 :: some (.int x) :: ls) st M := ok_ist (k := 3) rfl (Or.inr ⟨_, rfl, rfl⟩) (by decide) rfl rfl
theorem sX11_doesStandOn_2 {l0 l1 l2 : Option Value} {x : Int32} : ok d mX11_doesStandOn n0 Q n c w 2 (l0 :: l1 :: l2 :: some (.int x) :: ls) st M = ok d mX11_doesStandOn n0 Q n c w 3 (l0 :: l1 :: l2 :: some (.int x) :: ls) (.int x :: st) M := ok_r rfl rfl
theorem sX11_doesStandOn_3 : ok d mX11_doesStandOn n0 Q n c w 3 ls st M = ok d mX11_doesStandOn n0 Q n c w 4 ls (.int (-1) :: st) M := ok_r rfl (by rw [← ic_m1]; rfl)
theorem sX11_doesStandOn_4 {x z : Int32} : ok d mX11_doesStandOn n0 Q n c w 4 ls (.int z :: .int x :: st) M = ((x = z → ok d mX11_doesStandOn n0 Q n c w 22 ls st M) ∧ (¬ (x = z) → ok d mX11_doesStandOn n0 Q n c w 7 ls st M)) := ok_ico (pc := 4) (off := 18) (k := .eq) rfl 22 (by decide)
theorem sX11_doesStandOn_7 {l0 l1 l2 : Option Value} {x : Int32} : ok d mX11_doesStandOn n0 Q n c w 7 (l0 :: l1 :: l2 :: some (.int x) :: ls) st M = ok d mX11_doesStandOn n0 Q n c w 8 (l0 :: l1 :: l2 :: some (.int x) :: ls) (.int x :: st) M := ok_r rfl rfl
theorem sX11_doesStandOn_8 {l0 l1 : Option Value} {x : Int32} : ok d mX11_doesStandOn n0 Q n c w 8 (l0 :: l1 :: some (.int x) :: ls) st M = ok d mX11_doesStandOn n0 Q n c w 9 (l0 :: l1 :: some (.int x) :: ls) (.int x :: st) M := ok_r rfl rfl
theorem sX11_doesStandOn_9 {x z : Int32} : ok d mX11_doesStandOn n0 Q n c w 9 ls (.int z :: .int x :: st) M = ((x = z → ok d mX11_doesStandOn n0 Q n c w 22 ls st M) ∧ (¬ (x = z) → ok d mX11_doesStandOn n0 Q n c w 12 ls st M)) := ok_ico (pc := 9) (off := 13) (k := .eq) rfl 22 (by decide)
theorem sX11_doesStandOn_12 {x : Nat} : ok d mX11_doesStandOn n0 Q n c w 12 (some (.ref x) :: ls) st M = ok d mX11_doesStandOn n0 Q n c w 13 (some (.ref x) :: ls) (.ref x :: st) M := ok_r rfl rfl
theorem sX11_doesStandOn_13 {a : Nat} : ok d mX11_doesStandOn n0 Q n c w 13 ls (.ref a :: st) M = (am_ob n a 11 ∧ ok d mX11_doesStandOn n0 Q n c w 16 ls (am_rv (gR M a 35) :: st) M) := ok_get (q := (11, 35, 2, true, 1230)) rfl rfl rfl rfl
theorem sX11_doesStandOn_16 {l0 l1 l2 : Option Value} {x : Int32} : ok d mX11_doesStandOn n0 Q n c w 16 (l0 :: l1 :: l2 :: some (.int x) :: ls) st M = ok d mX11_doesStandOn n0 Q n c w 17 (l0 :: l1 :: l2 :: some (.int x) :: ls) (.int x :: st) M := ok_r rfl rfl
theorem sX11_doesStandOn_17 {a : Nat} {i : Int32} : ok d mX11_doesStandOn n0 Q n c w 17 ls (.int i :: .ref a :: st) M = (am_in n M a 1 i ∧ ok d mX11_doesStandOn n0 Q n c w 18 ls (.int (gI M a i.toNatClampNeg) :: st) M) := ok_r rfl rfl
theorem sX11_doesStandOn_18 {l0 l1 l2 l3 : Option Value} {x : Int32} : ok d mX11_doesStandOn n0 Q n c w 18 (l0 :: l1 :: l2 :: l3 :: ls) (.int x :: st) M = ok d mX11_doesStandOn n0 Q n c w 19 (l0 :: l1 :: am_kl l2 :: some (.int x) :: ls) st M := ok_ist (k := 3) rfl (Or.inr ⟨_, rfl, rfl⟩) (by decide) rfl rfl
theorem sX11_doesStandOn_19 : ok d mX11_doesStandOn n0 Q n c w 19 ls st M = ok d mX11_doesStandOn n0 Q n c w 2 ls st M := ok_got (pc := 19) (off := (-17)) rfl 2 (by decide)
theorem sX11_doesStandOn_22 {l0 l1 l2 : Option Value} {x : Int32} : ok d mX11_doesStandOn n0 Q n c w 22 (l0 :: l1 :: l2 :: some (.int x) :: ls) st M = ok d mX11_doesStandOn n0 Q n c w 23 (l0 :: l1 :: l2 :: some (.int x) :: ls) (.int x :: st) M := ok_r rfl rfl
theorem sX11_doesStandOn_23 {l0 l1 : Option Value} {x : Int32} : ok d mX11_doesStandOn n0 Q n c w 23 (l0 :: l1 :: some (.int x) :: ls) st M = ok d mX11_doesStandOn n0 Q n c w 24 (l0 :: l1 :: some (.int x) :: ls) (.int x :: st) M := ok_r rfl rfl
theorem sX11_doesStandOn_24 {x z : Int32} : ok d mX11_doesStandOn n0 Q n c w 24 ls (.int z :: .int x :: st) M = ((¬ x = z → ok d mX11_doesStandOn n0 Q n c w 31 ls st M) ∧ (¬ (¬ x = z) → ok d mX11_doesStandOn n0 Q n c w 27 ls st M)) := ok_ico (pc := 24) (off := 7) (k := .ne) rfl 31 (by decide)
theorem sX11_doesStandOn_27 : ok d mX11_doesStandOn n0 Q n c w 27 ls st M = ok d mX11_doesStandOn n0 Q n c w 28 ls (.int 1 :: st) M := ok_r rfl (by rw [← ic_1]; rfl)
theorem sX11_doesStandOn_28 : ok d mX11_doesStandOn n0 Q n c w 28 ls st M = ok d mX11_doesStandOn n0 Q n c w 32 ls st M := ok_got (pc := 28) (off := 4) rfl 32 (by decide)
theorem sX11_doesStandOn_31 : ok d mX11_doesStandOn n0 Q n c w 31 ls st M = ok d mX11_doesStandOn n0 Q n c w 32 ls (.int 0 :: st) M := ok_r rfl (by rw [← ic_0]; rfl)
theorem sX11_doesStandOn_32 {x : Int32} : ok d mX11_doesStandOn n Q n 0 0 32 ls [.int x] M = ((x = 0 ∨ x = 1) ∧ Q (some (.int x)) M) := ok_reZ rfl rfl ⟨rfl, rfl, rfl⟩
theorem eX11_doesStandOn {a0 : Nat} {a1 : Int32} {a2 : Int32} {n : Nat} {M : am_M} {Q : am_Q} : am_big (d + 1) mX11_doesStandOn [.ref a0, .int a1, .int a2] n M Q = ok d mX11_doesStandOn n Q n 0 0 0 [some (.ref a0), some (.int a1), some (.int a2), none] [] M := rfl
set_option maxRecDepth 100000 in
theorem sX11_canDo_0 {l0 l1 : Option Value} {x : Int32} : ok d mX11_canDo n0 Q n c w 0 (l0 :: l1 :: some (.int x) :: ls) st M = ok d mX11_canDo n0 Q n c w 1 (l0 :: l1 :: some (.int x) :: ls) (.int x :: st) M := ok_r rfl rfl
set_option maxRecDepth 100000 in
theorem sX11_canDo_1 {x : Int32} : ok d mX11_canDo n0 Q n c w 1 ls (.int x :: st) M = ok d mX11_canDo n0 Q n c w 2 ls (.long x.toInt64 :: st) M := ok_r rfl rfl
set_option maxRecDepth 100000 in
theorem sX11_canDo_2 : ok d mX11_canDo n0 Q n c w 2 ls st M = ok d mX11_canDo n0 Q n c w 3 ls (.long 0 :: st) M := ok_r rfl rfl
set_option maxRecDepth 100000 in
theorem sX11_canDo_3 : ok d mX11_canDo n0 Q n c w 3 ls st M = ok d mX11_canDo n0 Q n c w 6 ls (.long 4 :: st) M := ok_ldcl (v := (4, 1619)) rfl rfl rfl
set_option maxRecDepth 100000 in
theorem sX11_canDo_6 {a0 : Int64} {a1 : Int64} {a2 : Int64} : ok d mX11_canDo n0 Q n 0 0 6 ls [.long a2, .long a1, .long a0] M = am_big d mX11_isIn [.long a0, .long a1, .long a2] n M (kI fun x M' => ok d mX11_canDo n0 Q n 0 0 9 ls (.int x :: []) M') := ok_sta (y := mX11_canDo) (y' := mX11_isIn) (pc := 6) (k := 241) (ps := [1386, 1387, 110, 1388]) (c := 0) (w := 0) (st := [.long a2, .long a1, .long a0]) (as := [.long a0, .long a1, .long a2]) (rest := []) (kd := 1) rfl rfl (by decide) ⟨Nat.le_of_ble_eq_true rfl, Nat.le_of_ble_eq_true rfl, Nat.le_of_ble_eq_true rfl, Nat.le_of_ble_eq_true rfl, Nat.le_of_ble_eq_true rfl⟩ rfl rfl (am_contI (Or.inr rfl) rfl)
set_option maxRecDepth 100000 in
theorem sX11_canDo_9 {x : Int32} : ok d mX11_canDo n0 Q n c w 9 ls (.int x :: st) M = ((x = 0 → ok d mX11_canDo n0 Q n c w 30 ls st M) ∧ (¬ (x = 0) → ok d mX11_canDo n0 Q n c w 12 ls st M)) := ok_ifc (pc := 9) (off := 21) (k := .eq) rfl 30 (by decide)
set_option maxRecDepth 100000 in
theorem sX11_canDo_12 {l0 l1 l2 : Option Value} {x : Int32} : ok d mX11_canDo n0 Q n c w 12 (l0 :: l1 :: l2 :: some (.int x) :: ls) st M = ok d mX11_canDo n0 Q n c w 13 (l0 :: l1 :: l2 :: some (.int x) :: ls) (.int x :: st) M := ok_r rfl rfl
set_option maxRecDepth 100000 in
theorem sX11_canDo_13 {a0 : Int32} : ok d mX11_canDo n0 Q n 0 0 13 ls [.int a0] M = am_big d mX11_isPart [.int a0] n M (kI fun x M' => ok d mX11_canDo n0 Q n 0 0 16 ls (.int x :: []) M') := ok_sta (y := mX11_canDo) (y' := mX11_isPart) (pc := 13) (k := 324) (ps := [1586, 1587, 110, 1588]) (c := 0) (w := 0) (st := [.int a0]) (as := [.int a0]) (rest := []) (kd := 1) rfl rfl (by decide) ⟨Nat.le_of_ble_eq_true rfl, Nat.le_of_ble_eq_true rfl, Nat.le_of_ble_eq_true rfl, Nat.le_of_ble_eq_true rfl, Nat.le_of_ble_eq_true rfl⟩ rfl rfl (am_contI (Or.inr rfl) rfl)
set_option maxRecDepth 100000 in
theorem sX11_canDo_16 {x : Int32} : ok d mX11_canDo n0 Q n c w 16 ls (.int x :: st) M = ((x = 0 → ok d mX11_canDo n0 Q n c w 30 ls st M) ∧ (¬ (x = 0) → ok d mX11_canDo n0 Q n c w 19 ls st M)) := ok_ifc (pc := 16) (off := 14) (k := .eq) rfl 30 (by decide)
set_option maxRecDepth 100000 in
theorem sX11_canDo_19 {l0 : Option Value} {x : Nat} : ok d mX11_canDo n0 Q n c w 19 (l0 :: some (.ref x) :: ls) st M = ok d mX11_canDo n0 Q n c w 20 (l0 :: some (.ref x) :: ls) (.ref x :: st) M := ok_r rfl rfl
set_option maxRecDepth 100000 in
theorem sX11_canDo_20 : ok d mX11_canDo n0 Q n c w 20 ls st M = ok d mX11_canDo n0 Q n c w 22 ls (.int 36 :: st) M := ok_r rfl (by rw [← bc_36]; rfl)
set_option maxRecDepth 100000 in
theorem sX11_canDo_22 {a : Nat} {i : Int32} : ok d mX11_canDo n0 Q n c w 22 ls (.int i :: .ref a :: st) M = (am_in n M a 1 i ∧ ok d mX11_canDo n0 Q n c w 23 ls (.int (gI M a i.toNatClampNeg) :: st) M) := ok_r rfl rfl
set_option maxRecDepth 100000 in
theorem sX11_canDo_23 {x : Nat} : ok d mX11_canDo n0 Q n c w 23 (some (.ref x) :: ls) st M = ok d mX11_canDo n0 Q n c w 24 (some (.ref x) :: ls) (.ref x :: st) M := ok_r rfl rfl
set_option maxRecDepth 100000 in
theorem sX11_canDo_24 {a : Nat} : ok d mX11_canDo n0 Q n c w 24 ls (.ref a :: st) M = (am_ob n a 11 ∧ ok d mX11_canDo n0 Q n c w 27 ls (.int (gI M a 21) :: st) M) := ok_get (q := (11, 21, 0, false, 1216)) rfl rfl rfl rfl
set_option maxRecDepth 100000 in
theorem sX11_canDo_27 {x z : Int32} : ok d mX11_canDo n0 Q n c w 27 ls (.int z :: .int x :: st) M = ((x < z → ok d mX11_canDo n0 Q n c w 32 ls st M) ∧ (¬ (x < z) → ok d mX11_canDo n0 Q n c w 30 ls st M)) := ok_ico (pc := 27) (off := 5) (k := .lt) rfl 32 (by decide)
set_option maxRecDepth 100000 in
theorem sX11_canDo_30 : ok d mX11_canDo n0 Q n c w 30 ls st M = ok d mX11_canDo n0 Q n c w 31 ls (.int 0 :: st) M := ok_r rfl (by rw [← ic_0]; rfl)
set_option maxRecDepth 100000 in
theorem sX11_canDo_31 {x : Int32} : ok d mX11_canDo n Q n 0 0 31 ls [.int x] M = ((x = 0 ∨ x = 1) ∧ Q (some (.int x)) M) := ok_reZ rfl rfl ⟨rfl, rfl, rfl⟩
set_option maxRecDepth 100000 in
theorem sX11_canDo_32 {x : Nat} : ok d mX11_canDo n0 Q n c w 32 (some (.ref x) :: ls) st M = ok d mX11_canDo n0 Q n c w 33 (some (.ref x) :: ls) (.ref x :: st) M := ok_r rfl rfl
set_option maxRecDepth 100000 in
theorem sX11_canDo_33 {l0 : Option Value} {x : Nat} : ok d mX11_canDo n0 Q n c w 33 (l0 :: some (.ref x) :: ls) st M = ok d mX11_canDo n0 Q n c w 34 (l0 :: some (.ref x) :: ls) (.ref x :: st) M := ok_r rfl rfl
set_option maxRecDepth 100000 in
theorem sX11_canDo_34 {b : Nat} {a0 : Nat} : ok d mX11_canDo n0 Q n 0 0 34 ls [.ref a0, .ref b] M = (am_ob n b 11 ∧ am_big d mX11_stands [.ref b, .ref a0] n M (kV fun M' => ok d mX11_canDo n0 Q n 0 0 37 ls [] M')) := ok_vir (y := mX11_canDo) (y' := mX11_stands) (pc := 34) (k := 329) (ps := [1578, 1580, 63, 110, 1581]) (c := 0) (w := 0) (st := [.ref a0, .ref b]) (as := [.ref b, .ref a0]) (rest := []) (b := b) rfl rfl rfl ⟨Nat.le_of_ble_eq_true rfl, Nat.le_of_ble_eq_true rfl, Nat.le_of_ble_eq_true rfl, Nat.le_of_ble_eq_true rfl, Nat.le_of_ble_eq_true rfl⟩ rfl rfl (am_contV rfl)
set_option maxRecDepth 100000 in
theorem sX11_canDo_37 {l0 l1 : Option Value} {x : Int32} : ok d mX11_canDo n0 Q n c w 37 (l0 :: l1 :: some (.int x) :: ls) st M = ok d mX11_canDo n0 Q n c w 38 (l0 :: l1 :: some (.int x) :: ls) (.int x :: st) M := ok_r rfl rfl
set_option maxRecDepth 100000 in
theorem sX11_canDo_38 {x : Int32} : ok d mX11_canDo n0 Q n c w 38 ls (.int x :: st) M = ((¬ x = 0 → ok d mX11_canDo n0 Q n c w 70 ls st M) ∧ (¬ (¬ x = 0) → ok d mX11_canDo n0 Q n c w 41 ls st M)) := ok_ifc (pc := 38) (off := 32) (k := .ne) rfl 70 (by decide)
set_option maxRecDepth 100000 in
theorem sX11_canDo_41 {x : Nat} : ok d mX11_canDo n0 Q n c w 41 (some (.ref x) :: ls) st M = ok d mX11_canDo n0 Q n c w 42 (some (.ref x) :: ls) (.ref x :: st) M := ok_r rfl rfl
set_option maxRecDepth 100000 in
theorem sX11_canDo_42 {a : Nat} : ok d mX11_canDo n0 Q n c w 42 ls (.ref a :: st) M = (am_ob n a 11 ∧ ok d mX11_canDo n0 Q n c w 45 ls (am_rv (gR M a 31) :: st) M) := ok_get (q := (11, 31, 2, true, 1226)) rfl rfl rfl rfl
set_option maxRecDepth 100000 in
theorem sX11_canDo_45 {l0 l1 l2 : Option Value} {x : Int32} : ok d mX11_canDo n0 Q n c w 45 (l0 :: l1 :: l2 :: some (.int x) :: ls) st M = ok d mX11_canDo n0 Q n c w 46 (l0 :: l1 :: l2 :: some (.int x) :: ls) (.int x :: st) M := ok_r rfl rfl
set_option maxRecDepth 100000 in
theorem sX11_canDo_46 {a : Nat} {i : Int32} : ok d mX11_canDo n0 Q n c w 46 ls (.int i :: .ref a :: st) M = (am_in n M a 1 i ∧ ok d mX11_canDo n0 Q n c w 47 ls (.int (gI M a i.toNatClampNeg) :: st) M) := ok_r rfl rfl
set_option maxRecDepth 100000 in
theorem sX11_canDo_47 : ok d mX11_canDo n0 Q n c w 47 ls st M = ok d mX11_canDo n0 Q n c w 48 ls (.int (-1) :: st) M := ok_r rfl (by rw [← ic_m1]; rfl)
set_option maxRecDepth 100000 in
theorem sX11_canDo_48 {x z : Int32} : ok d mX11_canDo n0 Q n c w 48 ls (.int z :: .int x :: st) M = ((¬ x = z → ok d mX11_canDo n0 Q n c w 68 ls st M) ∧ (¬ (¬ x = z) → ok d mX11_canDo n0 Q n c w 51 ls st M)) := ok_ico (pc := 48) (off := 20) (k := .ne) rfl 68 (by decide)
set_option maxRecDepth 100000 in
theorem sX11_canDo_51 {l0 l1 l2 l3 : Option Value} {x : Int32} : ok d mX11_canDo n0 Q n c w 51 (l0 :: l1 :: l2 :: l3 :: some (.int x) :: ls) st M = ok d mX11_canDo n0 Q n c w 53 (l0 :: l1 :: l2 :: l3 :: some (.int x) :: ls) (.int x :: st) M := ok_r rfl rfl
set_option maxRecDepth 100000 in
theorem sX11_canDo_53 {x : Int32} : ok d mX11_canDo n0 Q n c w 53 ls (.int x :: st) M = ok d mX11_canDo n0 Q n c w 54 ls (.long x.toInt64 :: st) M := ok_r rfl rfl
set_option maxRecDepth 100000 in
theorem sX11_canDo_54 : ok d mX11_canDo n0 Q n c w 54 ls st M = ok d mX11_canDo n0 Q n c w 55 ls (.long 0 :: st) M := ok_r rfl rfl
set_option maxRecDepth 100000 in
theorem sX11_canDo_55 : ok d mX11_canDo n0 Q n c w 55 ls st M = ok d mX11_canDo n0 Q n c w 58 ls (.long 9 :: st) M := ok_ldcl (v := (9, 1606)) rfl rfl rfl
set_option maxRecDepth 100000 in
theorem sX11_canDo_58 {a0 : Int64} {a1 : Int64} {a2 : Int64} : ok d mX11_canDo n0 Q n 0 0 58 ls [.long a2, .long a1, .long a0] M = am_big d mX11_isIn [.long a0, .long a1, .long a2] n M (kI fun x M' => ok d mX11_canDo n0 Q n 0 0 61 ls (.int x :: []) M') := ok_sta (y := mX11_canDo) (y' := mX11_isIn) (pc := 58) (k := 241) (ps := [1386, 1387, 110, 1388]) (c := 0) (w := 0) (st := [.long a2, .long a1, .long a0]) (as := [.long a0, .long a1, .long a2]) (rest := []) (kd := 1) rfl rfl (by decide) ⟨Nat.le_of_ble_eq_true rfl, Nat.le_of_ble_eq_true rfl, Nat.le_of_ble_eq_true rfl, Nat.le_of_ble_eq_true rfl, Nat.le_of_ble_eq_true rfl⟩ rfl rfl (am_contI (Or.inr rfl) rfl)
set_option maxRecDepth 100000 in
theorem sX11_canDo_61 {x : Int32} : ok d mX11_canDo n0 Q n c w 61 ls (.int x :: st) M = ((x = 0 → ok d mX11_canDo n0 Q n c w 68 ls st M) ∧ (¬ (x = 0) → ok d mX11_canDo n0 Q n c w 64 ls st M)) := ok_ifc (pc := 61) (off := 7) (k := .eq) rfl 68 (by decide)
set_option maxRecDepth 100000 in
theorem sX11_canDo_64 : ok d mX11_canDo n0 Q n c w 64 ls st M = ok d mX11_canDo n0 Q n c w 65 ls (.int 1 :: st) M := ok_r rfl (by rw [← ic_1]; rfl)
set_option maxRecDepth 100000 in
theorem sX11_canDo_65 : ok d mX11_canDo n0 Q n c w 65 ls st M = ok d mX11_canDo n0 Q n c w 69 ls st M := ok_got (pc := 65) (off := 4) rfl 69 (by decide)
set_option maxRecDepth 100000 in
theorem sX11_canDo_68 : ok d mX11_canDo n0 Q n c w 68 ls st M = ok d mX11_canDo n0 Q n c w 69 ls (.int 0 :: st) M := ok_r rfl (by rw [← ic_0]; rfl)
set_option maxRecDepth 100000 in
theorem sX11_canDo_69 {x : Int32} : ok d mX11_canDo n Q n 0 0 69 ls [.int x] M = ((x = 0 ∨ x = 1) ∧ Q (some (.int x)) M) := ok_reZ rfl rfl ⟨rfl, rfl, rfl⟩
set_option maxRecDepth 100000 in
theorem sX11_canDo_70 {x : Nat} : ok d mX11_canDo n0 Q n c w 70 (some (.ref x) :: ls) st M = ok d mX11_canDo n0 Q n c w 71 (some (.ref x) :: ls) (.ref x :: st) M := ok_r rfl rfl
set_option maxRecDepth 100000 in
theorem sX11_canDo_71 {a : Nat} : ok d mX11_canDo n0 Q n c w 71 ls (.ref a :: st) M = (am_ob n a 11 ∧ ok d mX11_canDo n0 Q n c w 74 ls (am_rv (gR M a 31) :: st) M) := ok_get (q := (11, 31, 2, true, 1226)) rfl rfl rfl rfl
set_option maxRecDepth 100000 in
theorem sX11_canDo_74 {l0 l1 l2 : Option Value} {x : Int32} : ok d mX11_canDo n0 Q n c w 74 (l0 :: l1 :: l2 :: some (.int x) :: ls) st M = ok d mX11_canDo n0 Q n c w 75 (l0 :: l1 :: l2 :: some (.int x) :: ls) (.int x :: st) M := ok_r rfl rfl
set_option maxRecDepth 100000 in
theorem sX11_canDo_75 {a : Nat} {i : Int32} : ok d mX11_canDo n0 Q n c w 75 ls (.int i :: .ref a :: st) M = (am_in n M a 1 i ∧ ok d mX11_canDo n0 Q n c w 76 ls (.int (gI M a i.toNatClampNeg) :: st) M) := ok_r rfl rfl
set_option maxRecDepth 100000 in
theorem sX11_canDo_76 : ok d mX11_canDo n0 Q n c w 76 ls st M = ok d mX11_canDo n0 Q n c w 77 ls (.int (-1) :: st) M := ok_r rfl (by rw [← ic_m1]; rfl)
set_option maxRecDepth 100000 in
theorem sX11_canDo_77 {x z : Int32} : ok d mX11_canDo n0 Q n c w 77 ls (.int z :: .int x :: st) M = ((¬ x = z → ok d mX11_canDo n0 Q n c w 82 ls st M) ∧ (¬ (¬ x = z) → ok d mX11_canDo n0 Q n c w 80 ls st M)) := ok_ico (pc := 77) (off := 5) (k := .ne) rfl 82 (by decide)
set_option maxRecDepth 100000 in
theorem sX11_canDo_80 : ok d mX11_canDo n0 Q n c w 80 ls st M = ok d mX11_canDo n0 Q n c w 81 ls (.int 0 :: st) M := ok_r rfl (by rw [← ic_0]; rfl)
set_option maxRecDepth 100000 in
theorem sX11_canDo_81 {x : Int32} : ok d mX11_canDo n Q n 0 0 81 ls [.int x] M = ((x = 0 ∨ x = 1) ∧ Q (some (.int x)) M) := ok_reZ rfl rfl ⟨rfl, rfl, rfl⟩
set_option maxRecDepth 100000 in
theorem sX11_canDo_82 {l0 l1 : Option Value} {x : Int32} : ok d mX11_canDo n0 Q n c w 82 (l0 :: l1 :: some (.int x) :: ls) st M = ok d mX11_canDo n0 Q n c w 83 (l0 :: l1 :: some (.int x) :: ls) (.int x :: st) M := ok_r rfl rfl
set_option maxRecDepth 100000 in
theorem sX11_canDo_83 : ok d mX11_canDo n0 Q n c w 83 ls st M = ok d mX11_canDo n0 Q n c w 84 ls (.int 1 :: st) M := ok_r rfl (by rw [← ic_1]; rfl)
set_option maxRecDepth 100000 in
theorem sX11_canDo_84 {x z : Int32} : ok d mX11_canDo n0 Q n c w 84 ls (.int z :: .int x :: st) M = ((¬ x = z → ok d mX11_canDo n0 Q n c w 113 ls st M) ∧ (¬ (¬ x = z) → ok d mX11_canDo n0 Q n c w 87 ls st M)) := ok_ico (pc := 84) (off := 29) (k := .ne) rfl 113 (by decide)
set_option maxRecDepth 100000 in
theorem sX11_canDo_87 {x : Nat} : ok d mX11_canDo n0 Q n c w 87 (some (.ref x) :: ls) st M = ok d mX11_canDo n0 Q n c w 88 (some (.ref x) :: ls) (.ref x :: st) M := ok_r rfl rfl
set_option maxRecDepth 100000 in
theorem sX11_canDo_88 {a : Nat} : ok d mX11_canDo n0 Q n c w 88 ls (.ref a :: st) M = (am_ob n a 11 ∧ ok d mX11_canDo n0 Q n c w 91 ls (am_rv (gR M a 35) :: st) M) := ok_get (q := (11, 35, 2, true, 1230)) rfl rfl rfl rfl
set_option maxRecDepth 100000 in
theorem sX11_canDo_91 {l0 l1 l2 : Option Value} {x : Int32} : ok d mX11_canDo n0 Q n c w 91 (l0 :: l1 :: l2 :: some (.int x) :: ls) st M = ok d mX11_canDo n0 Q n c w 92 (l0 :: l1 :: l2 :: some (.int x) :: ls) (.int x :: st) M := ok_r rfl rfl
set_option maxRecDepth 100000 in
theorem sX11_canDo_92 {a : Nat} {i : Int32} : ok d mX11_canDo n0 Q n c w 92 ls (.int i :: .ref a :: st) M = (am_in n M a 1 i ∧ ok d mX11_canDo n0 Q n c w 93 ls (.int (gI M a i.toNatClampNeg) :: st) M) := ok_r rfl rfl
set_option maxRecDepth 100000 in
theorem sX11_canDo_93 : ok d mX11_canDo n0 Q n c w 93 ls st M = ok d mX11_canDo n0 Q n c w 94 ls (.int (-1) :: st) M := ok_r rfl (by rw [← ic_m1]; rfl)
set_option maxRecDepth 100000 in
theorem sX11_canDo_94 {x z : Int32} : ok d mX11_canDo n0 Q n c w 94 ls (.int z :: .int x :: st) M = ((¬ x = z → ok d mX11_canDo n0 Q n c w 111 ls st M) ∧ (¬ (¬ x = z) → ok d mX11_canDo n0 Q n c w 97 ls st M)) := ok_ico (pc := 94) (off := 17) (k := .ne) rfl 111 (by decide)
set_option maxRecDepth 100000 in
theorem sX11_canDo_97 {x : Nat} : ok d mX11_canDo n0 Q n c w 97 (some (.ref x) :: ls) st M = ok d mX11_canDo n0 Q n c w 98 (some (.ref x) :: ls) (.ref x :: st) M := ok_r rfl rfl
set_option maxRecDepth 100000 in
theorem sX11_canDo_98 {a : Nat} : ok d mX11_canDo n0 Q n c w 98 ls (.ref a :: st) M = (am_ob n a 11 ∧ ok d mX11_canDo n0 Q n c w 101 ls (am_rv (gR M a 32) :: st) M) := ok_get (q := (11, 32, 2, true, 1227)) rfl rfl rfl rfl
set_option maxRecDepth 100000 in
theorem sX11_canDo_101 {l0 l1 l2 : Option Value} {x : Int32} : ok d mX11_canDo n0 Q n c w 101 (l0 :: l1 :: l2 :: some (.int x) :: ls) st M = ok d mX11_canDo n0 Q n c w 102 (l0 :: l1 :: l2 :: some (.int x) :: ls) (.int x :: st) M := ok_r rfl rfl
set_option maxRecDepth 100000 in
theorem sX11_canDo_102 {a : Nat} {i : Int32} : ok d mX11_canDo n0 Q n c w 102 ls (.int i :: .ref a :: st) M = (am_in n M a 1 i ∧ ok d mX11_canDo n0 Q n c w 103 ls (.int (gI M a i.toNatClampNeg) :: st) M) := ok_r rfl rfl
set_option maxRecDepth 100000 in
theorem sX11_canDo_103 : ok d mX11_canDo n0 Q n c w 103 ls st M = ok d mX11_canDo n0 Q n c w 104 ls (.int 3 :: st) M := ok_r rfl (by rw [← ic_3]; rfl)
set_option maxRecDepth 100000 in
theorem sX11_canDo_104 {x z : Int32} : ok d mX11_canDo n0 Q n c w 104 ls (.int z :: .int x :: st) M = ((z ≤ x → ok d mX11_canDo n0 Q n c w 111 ls st M) ∧ (¬ (z ≤ x) → ok d mX11_canDo n0 Q n c w 107 ls st M)) := ok_ico (pc := 104) (off := 7) (k := .ge) rfl 111 (by decide)
set_option maxRecDepth 100000 in
theorem sX11_canDo_107 : ok d mX11_canDo n0 Q n c w 107 ls st M = ok d mX11_canDo n0 Q n c w 108 ls (.int 1 :: st) M := ok_r rfl (by rw [← ic_1]; rfl)
set_option maxRecDepth 100000 in
theorem sX11_canDo_108 : ok d mX11_canDo n0 Q n c w 108 ls st M = ok d mX11_canDo n0 Q n c w 112 ls st M := ok_got (pc := 108) (off := 4) rfl 112 (by decide)
set_option maxRecDepth 100000 in
theorem sX11_canDo_111 : ok d mX11_canDo n0 Q n c w 111 ls st M = ok d mX11_canDo n0 Q n c w 112 ls (.int 0 :: st) M := ok_r rfl (by rw [← ic_0]; rfl)
set_option maxRecDepth 100000 in
theorem sX11_canDo_112 {x : Int32} : ok d mX11_canDo n Q n 0 0 112 ls [.int x] M = ((x = 0 ∨ x = 1) ∧ Q (some (.int x)) M) := ok_reZ rfl rfl ⟨rfl, rfl, rfl⟩
set_option maxRecDepth 100000 in
theorem sX11_canDo_113 {l0 l1 : Option Value} {x : Int32} : ok d mX11_canDo n0 Q n c w 113 (l0 :: l1 :: some (.int x) :: ls) st M = ok d mX11_canDo n0 Q n c w 114 (l0 :: l1 :: some (.int x) :: ls) (.int x :: st) M := ok_r rfl rfl
set_option maxRecDepth 100000 in
theorem sX11_canDo_114 : ok d mX11_canDo n0 Q n c w 114 ls st M = ok d mX11_canDo n0 Q n c w 115 ls (.int 2 :: st) M := ok_r rfl (by rw [← ic_2]; rfl)
set_option maxRecDepth 100000 in
theorem sX11_canDo_115 {x z : Int32} : ok d mX11_canDo n0 Q n c w 115 ls (.int z :: .int x :: st) M = ((¬ x = z → ok d mX11_canDo n0 Q n c w 164 ls st M) ∧ (¬ (¬ x = z) → ok d mX11_canDo n0 Q n c w 118 ls st M)) := ok_ico (pc := 115) (off := 49) (k := .ne) rfl 164 (by decide)
set_option maxRecDepth 100000 in
theorem sX11_canDo_118 {l0 l1 l2 l3 : Option Value} {x : Int32} : ok d mX11_canDo n0 Q n c w 118 (l0 :: l1 :: l2 :: l3 :: some (.int x) :: ls) st M = ok d mX11_canDo n0 Q n c w 120 (l0 :: l1 :: l2 :: l3 :: some (.int x) :: ls) (.int x :: st) M := ok_r rfl rfl
set_option maxRecDepth 100000 in
theorem sX11_canDo_120 {x : Int32} : ok d mX11_canDo n0 Q n c w 120 ls (.int x :: st) M = ok d mX11_canDo n0 Q n c w 121 ls (.long x.toInt64 :: st) M := ok_r rfl rfl
set_option maxRecDepth 100000 in
theorem sX11_canDo_121 : ok d mX11_canDo n0 Q n c w 121 ls st M = ok d mX11_canDo n0 Q n c w 122 ls (.long 1 :: st) M := ok_r rfl rfl
set_option maxRecDepth 100000 in
theorem sX11_canDo_122 : ok d mX11_canDo n0 Q n c w 122 ls st M = ok d mX11_canDo n0 Q n c w 125 ls (.long 9 :: st) M := ok_ldcl (v := (9, 1606)) rfl rfl rfl
set_option maxRecDepth 100000 in
theorem sX11_canDo_125 {a0 : Int64} {a1 : Int64} {a2 : Int64} : ok d mX11_canDo n0 Q n 0 0 125 ls [.long a2, .long a1, .long a0] M = am_big d mX11_isIn [.long a0, .long a1, .long a2] n M (kI fun x M' => ok d mX11_canDo n0 Q n 0 0 128 ls (.int x :: []) M') := ok_sta (y := mX11_canDo) (y' := mX11_isIn) (pc := 125) (k := 241) (ps := [1386, 1387, 110, 1388]) (c := 0) (w := 0) (st := [.long a2, .long a1, .long a0]) (as := [.long a0, .long a1, .long a2]) (rest := []) (kd := 1) rfl rfl (by decide) ⟨Nat.le_of_ble_eq_true rfl, Nat.le_of_ble_eq_true rfl, Nat.le_of_ble_eq_true rfl, Nat.le_of_ble_eq_true rfl, Nat.le_of_ble_eq_true rfl⟩ rfl rfl (am_contI (Or.inr rfl) rfl)
set_option maxRecDepth 100000 in
theorem sX11_canDo_128 {x : Int32} : ok d mX11_canDo n0 Q n c w 128 ls (.int x :: st) M = ((x = 0 → ok d mX11_canDo n0 Q n c w 162 ls st M) ∧ (¬ (x = 0) → ok d mX11_canDo n0 Q n c w 131 ls st M)) := ok_ifc (pc := 128) (off := 34) (k := .eq) rfl 162 (by decide)
set_option maxRecDepth 100000 in
theorem sX11_canDo_131 {x : Nat} : ok d mX11_canDo n0 Q n c w 131 (some (.ref x) :: ls) st M = ok d mX11_canDo n0 Q n c w 132 (some (.ref x) :: ls) (.ref x :: st) M := ok_r rfl rfl
set_option maxRecDepth 100000 in
theorem sX11_canDo_132 {a : Nat} : ok d mX11_canDo n0 Q n c w 132 ls (.ref a :: st) M = (am_ob n a 11 ∧ ok d mX11_canDo n0 Q n c w 135 ls (am_rv (gR M a 36) :: st) M) := ok_get (q := (11, 36, 2, true, 1231)) rfl rfl rfl rfl
set_option maxRecDepth 100000 in
theorem sX11_canDo_135 {l0 l1 l2 : Option Value} {x : Int32} : ok d mX11_canDo n0 Q n c w 135 (l0 :: l1 :: l2 :: some (.int x) :: ls) st M = ok d mX11_canDo n0 Q n c w 136 (l0 :: l1 :: l2 :: some (.int x) :: ls) (.int x :: st) M := ok_r rfl rfl
set_option maxRecDepth 100000 in
theorem sX11_canDo_136 {a : Nat} {i : Int32} : ok d mX11_canDo n0 Q n c w 136 ls (.int i :: .ref a :: st) M = (am_in n M a 1 i ∧ ok d mX11_canDo n0 Q n c w 137 ls (.int (gI M a i.toNatClampNeg) :: st) M) := ok_r rfl rfl
set_option maxRecDepth 100000 in
theorem sX11_canDo_137 {x : Int32} : ok d mX11_canDo n0 Q n c w 137 ls (.int x :: st) M = ((¬ x = 0 → ok d mX11_canDo n0 Q n c w 162 ls st M) ∧ (¬ (¬ x = 0) → ok d mX11_canDo n0 Q n c w 140 ls st M)) := ok_ifc (pc := 137) (off := 25) (k := .ne) rfl 162 (by decide)
set_option maxRecDepth 100000 in
theorem sX11_canDo_140 {x : Nat} : ok d mX11_canDo n0 Q n c w 140 (some (.ref x) :: ls) st M = ok d mX11_canDo n0 Q n c w 141 (some (.ref x) :: ls) (.ref x :: st) M := ok_r rfl rfl
set_option maxRecDepth 100000 in
theorem sX11_canDo_141 {l0 l1 l2 : Option Value} {x : Int32} : ok d mX11_canDo n0 Q n c w 141 (l0 :: l1 :: l2 :: some (.int x) :: ls) st M = ok d mX11_canDo n0 Q n c w 142 (l0 :: l1 :: l2 :: some (.int x) :: ls) (.int x :: st) M := ok_r rfl rfl
set_option maxRecDepth 100000 in
theorem sX11_canDo_142 {b : Nat} {a0 : Int32} : ok d mX11_canDo n0 Q n 0 0 142 ls [.int a0, .ref b] M = (am_ob n b 11 ∧ am_big d mX11_upon0 [.ref b, .int a0] n M (kI fun x M' => ok d mX11_canDo n0 Q n 0 0 145 ls (.int x :: []) M')) := ok_vir (y := mX11_canDo) (y' := mX11_upon0) (pc := 142) (k := 335) (ps := [1620, 1622, 68, 110, 1623]) (c := 0) (w := 0) (st := [.int a0, .ref b]) (as := [.ref b, .int a0]) (rest := []) (b := b) rfl rfl rfl ⟨Nat.le_of_ble_eq_true rfl, Nat.le_of_ble_eq_true rfl, Nat.le_of_ble_eq_true rfl, Nat.le_of_ble_eq_true rfl, Nat.le_of_ble_eq_true rfl⟩ rfl rfl (am_contI (Or.inl rfl) rfl)
set_option maxRecDepth 100000 in
theorem sX11_canDo_145 {x : Int32} : ok d mX11_canDo n0 Q n c w 145 ls (.int x :: st) M = ((¬ x = 0 → ok d mX11_canDo n0 Q n c w 162 ls st M) ∧ (¬ (¬ x = 0) → ok d mX11_canDo n0 Q n c w 148 ls st M)) := ok_ifc (pc := 145) (off := 17) (k := .ne) rfl 162 (by decide)
set_option maxRecDepth 100000 in
theorem sX11_canDo_148 {x : Nat} : ok d mX11_canDo n0 Q n c w 148 (some (.ref x) :: ls) st M = ok d mX11_canDo n0 Q n c w 149 (some (.ref x) :: ls) (.ref x :: st) M := ok_r rfl rfl
set_option maxRecDepth 100000 in
theorem sX11_canDo_149 {a : Nat} : ok d mX11_canDo n0 Q n c w 149 ls (.ref a :: st) M = (am_ob n a 11 ∧ ok d mX11_canDo n0 Q n c w 152 ls (am_rv (gR M a 33) :: st) M) := ok_get (q := (11, 33, 2, true, 1228)) rfl rfl rfl rfl
set_option maxRecDepth 100000 in
theorem sX11_canDo_152 {l0 l1 l2 : Option Value} {x : Int32} : ok d mX11_canDo n0 Q n c w 152 (l0 :: l1 :: l2 :: some (.int x) :: ls) st M = ok d mX11_canDo n0 Q n c w 153 (l0 :: l1 :: l2 :: some (.int x) :: ls) (.int x :: st) M := ok_r rfl rfl
set_option maxRecDepth 100000 in
theorem sX11_canDo_153 {a : Nat} {i : Int32} : ok d mX11_canDo n0 Q n c w 153 ls (.int i :: .ref a :: st) M = (am_in n M a 1 i ∧ ok d mX11_canDo n0 Q n c w 154 ls (.int (gI M a i.toNatClampNeg) :: st) M) := ok_r rfl rfl
set_option maxRecDepth 100000 in
theorem sX11_canDo_154 : ok d mX11_canDo n0 Q n c w 154 ls st M = ok d mX11_canDo n0 Q n c w 155 ls (.int 3 :: st) M := ok_r rfl (by rw [← ic_3]; rfl)
set_option maxRecDepth 100000 in
theorem sX11_canDo_155 {x z : Int32} : ok d mX11_canDo n0 Q n c w 155 ls (.int z :: .int x :: st) M = ((z ≤ x → ok d mX11_canDo n0 Q n c w 162 ls st M) ∧ (¬ (z ≤ x) → ok d mX11_canDo n0 Q n c w 158 ls st M)) := ok_ico (pc := 155) (off := 7) (k := .ge) rfl 162 (by decide)
set_option maxRecDepth 100000 in
theorem sX11_canDo_158 : ok d mX11_canDo n0 Q n c w 158 ls st M = ok d mX11_canDo n0 Q n c w 159 ls (.int 1 :: st) M := ok_r rfl (by rw [← ic_1]; rfl)
set_option maxRecDepth 100000 in
theorem sX11_canDo_159 : ok d mX11_canDo n0 Q n c w 159 ls st M = ok d mX11_canDo n0 Q n c w 163 ls st M := ok_got (pc := 159) (off := 4) rfl 163 (by decide)
set_option maxRecDepth 100000 in
theorem sX11_canDo_162 : ok d mX11_canDo n0 Q n c w 162 ls st M = ok d mX11_canDo n0 Q n c w 163 ls (.int 0 :: st) M := ok_r rfl (by rw [← ic_0]; rfl)
set_option maxRecDepth 100000 in
theorem sX11_canDo_163 {x : Int32} : ok d mX11_canDo n Q n 0 0 163 ls [.int x] M = ((x = 0 ∨ x = 1) ∧ Q (some (.int x)) M) := ok_reZ rfl rfl ⟨rfl, rfl, rfl⟩
set_option maxRecDepth 100000 in
theorem sX11_canDo_164 {l0 l1 : Option Value} {x : Int32} : ok d mX11_canDo n0 Q n c w 164 (l0 :: l1 :: some (.int x) :: ls) st M = ok d mX11_canDo n0 Q n c w 165 (l0 :: l1 :: some (.int x) :: ls) (.int x :: st) M := ok_r rfl rfl
set_option maxRecDepth 100000 in
theorem sX11_canDo_165 : ok d mX11_canDo n0 Q n c w 165 ls st M = ok d mX11_canDo n0 Q n c w 166 ls (.int 4 :: st) M := ok_r rfl (by rw [← ic_4]; rfl)
set_option maxRecDepth 100000 in
theorem sX11_canDo_166 {x z : Int32} : ok d mX11_canDo n0 Q n c w 166 ls (.int z :: .int x :: st) M = ((¬ x = z → ok d mX11_canDo n0 Q n c w 202 ls st M) ∧ (¬ (¬ x = z) → ok d mX11_canDo n0 Q n c w 169 ls st M)) := ok_ico (pc := 166) (off := 36) (k := .ne) rfl 202 (by decide)
set_option maxRecDepth 100000 in
theorem sX11_canDo_169 {x : Nat} : ok d mX11_canDo n0 Q n c w 169 (some (.ref x) :: ls) st M = ok d mX11_canDo n0 Q n c w 170 (some (.ref x) :: ls) (.ref x :: st) M := ok_r rfl rfl
set_option maxRecDepth 100000 in
theorem sX11_canDo_170 {a : Nat} : ok d mX11_canDo n0 Q n c w 170 ls (.ref a :: st) M = (am_ob n a 11 ∧ ok d mX11_canDo n0 Q n c w 173 ls (am_rv (gR M a 35) :: st) M) := ok_get (q := (11, 35, 2, true, 1230)) rfl rfl rfl rfl
set_option maxRecDepth 100000 in
theorem sX11_canDo_173 {l0 l1 l2 : Option Value} {x : Int32} : ok d mX11_canDo n0 Q n c w 173 (l0 :: l1 :: l2 :: some (.int x) :: ls) st M = ok d mX11_canDo n0 Q n c w 174 (l0 :: l1 :: l2 :: some (.int x) :: ls) (.int x :: st) M := ok_r rfl rfl
set_option maxRecDepth 100000 in
theorem sX11_canDo_174 {a : Nat} {i : Int32} : ok d mX11_canDo n0 Q n c w 174 ls (.int i :: .ref a :: st) M = (am_in n M a 1 i ∧ ok d mX11_canDo n0 Q n c w 175 ls (.int (gI M a i.toNatClampNeg) :: st) M) := ok_r rfl rfl
set_option maxRecDepth 100000 in
theorem sX11_canDo_175 : ok d mX11_canDo n0 Q n c w 175 ls st M = ok d mX11_canDo n0 Q n c w 176 ls (.int (-1) :: st) M := ok_r rfl (by rw [← ic_m1]; rfl)
set_option maxRecDepth 100000 in
theorem sX11_canDo_176 {x z : Int32} : ok d mX11_canDo n0 Q n c w 176 ls (.int z :: .int x :: st) M = ((x = z → ok d mX11_canDo n0 Q n c w 200 ls st M) ∧ (¬ (x = z) → ok d mX11_canDo n0 Q n c w 179 ls st M)) := ok_ico (pc := 176) (off := 24) (k := .eq) rfl 200 (by decide)
set_option maxRecDepth 100000 in
theorem sX11_canDo_179 {x : Nat} : ok d mX11_canDo n0 Q n c w 179 (some (.ref x) :: ls) st M = ok d mX11_canDo n0 Q n c w 180 (some (.ref x) :: ls) (.ref x :: st) M := ok_r rfl rfl
set_option maxRecDepth 100000 in
theorem sX11_canDo_180 {a : Nat} : ok d mX11_canDo n0 Q n c w 180 ls (.ref a :: st) M = (am_ob n a 11 ∧ ok d mX11_canDo n0 Q n c w 183 ls (am_rv (gR M a 36) :: st) M) := ok_get (q := (11, 36, 2, true, 1231)) rfl rfl rfl rfl
set_option maxRecDepth 100000 in
theorem sX11_canDo_183 {l0 l1 l2 : Option Value} {x : Int32} : ok d mX11_canDo n0 Q n c w 183 (l0 :: l1 :: l2 :: some (.int x) :: ls) st M = ok d mX11_canDo n0 Q n c w 184 (l0 :: l1 :: l2 :: some (.int x) :: ls) (.int x :: st) M := ok_r rfl rfl
set_option maxRecDepth 100000 in
theorem sX11_canDo_184 {a : Nat} {i : Int32} : ok d mX11_canDo n0 Q n c w 184 ls (.int i :: .ref a :: st) M = (am_in n M a 1 i ∧ ok d mX11_canDo n0 Q n c w 185 ls (.int (gI M a i.toNatClampNeg) :: st) M) := ok_r rfl rfl
set_option maxRecDepth 100000 in
theorem sX11_canDo_185 {x : Int32} : ok d mX11_canDo n0 Q n c w 185 ls (.int x :: st) M = ((¬ x = 0 → ok d mX11_canDo n0 Q n c w 200 ls st M) ∧ (¬ (¬ x = 0) → ok d mX11_canDo n0 Q n c w 188 ls st M)) := ok_ifc (pc := 185) (off := 15) (k := .ne) rfl 200 (by decide)
set_option maxRecDepth 100000 in
theorem sX11_canDo_188 {x : Nat} : ok d mX11_canDo n0 Q n c w 188 (some (.ref x) :: ls) st M = ok d mX11_canDo n0 Q n c w 189 (some (.ref x) :: ls) (.ref x :: st) M := ok_r rfl rfl
set_option maxRecDepth 100000 in
theorem sX11_canDo_189 {l0 l1 l2 : Option Value} {x : Int32} : ok d mX11_canDo n0 Q n c w 189 (l0 :: l1 :: l2 :: some (.int x) :: ls) st M = ok d mX11_canDo n0 Q n c w 190 (l0 :: l1 :: l2 :: some (.int x) :: ls) (.int x :: st) M := ok_r rfl rfl
set_option maxRecDepth 100000 in
theorem sX11_canDo_190 {b : Nat} {a0 : Int32} : ok d mX11_canDo n0 Q n 0 0 190 ls [.int a0, .ref b] M = (am_ob n b 11 ∧ am_big d mX11_upon0 [.ref b, .int a0] n M (kI fun x M' => ok d mX11_canDo n0 Q n 0 0 193 ls (.int x :: []) M')) := ok_vir (y := mX11_canDo) (y' := mX11_upon0) (pc := 190) (k := 335) (ps := [1620, 1622, 68, 110, 1623]) (c := 0) (w := 0) (st := [.int a0, .ref b]) (as := [.ref b, .int a0]) (rest := []) (b := b) rfl rfl rfl ⟨Nat.le_of_ble_eq_true rfl, Nat.le_of_ble_eq_true rfl, Nat.le_of_ble_eq_true rfl, Nat.le_of_ble_eq_true rfl, Nat.le_of_ble_eq_true rfl⟩ rfl rfl (am_contI (Or.inl rfl) rfl)
set_option maxRecDepth 100000 in
theorem sX11_canDo_193 {x : Int32} : ok d mX11_canDo n0 Q n c w 193 ls (.int x :: st) M = ((¬ x = 0 → ok d mX11_canDo n0 Q n c w 200 ls st M) ∧ (¬ (¬ x = 0) → ok d mX11_canDo n0 Q n c w 196 ls st M)) := ok_ifc (pc := 193) (off := 7) (k := .ne) rfl 200 (by decide)
set_option maxRecDepth 100000 in
theorem sX11_canDo_196 : ok d mX11_canDo n0 Q n c w 196 ls st M = ok d mX11_canDo n0 Q n c w 197 ls (.int 1 :: st) M := ok_r rfl (by rw [← ic_1]; rfl)
set_option maxRecDepth 100000 in
theorem sX11_canDo_197 : ok d mX11_canDo n0 Q n c w 197 ls st M = ok d mX11_canDo n0 Q n c w 201 ls st M := ok_got (pc := 197) (off := 4) rfl 201 (by decide)
set_option maxRecDepth 100000 in
theorem sX11_canDo_200 : ok d mX11_canDo n0 Q n c w 200 ls st M = ok d mX11_canDo n0 Q n c w 201 ls (.int 0 :: st) M := ok_r rfl (by rw [← ic_0]; rfl)
set_option maxRecDepth 100000 in
theorem sX11_canDo_201 {x : Int32} : ok d mX11_canDo n Q n 0 0 201 ls [.int x] M = ((x = 0 ∨ x = 1) ∧ Q (some (.int x)) M) := ok_reZ rfl rfl ⟨rfl, rfl, rfl⟩
set_option maxRecDepth 100000 in
theorem sX11_canDo_202 {x : Nat} : ok d mX11_canDo n0 Q n c w 202 (some (.ref x) :: ls) st M = ok d mX11_canDo n0 Q n c w 203 (some (.ref x) :: ls) (.ref x :: st) M := ok_r rfl rfl
set_option maxRecDepth 100000 in
theorem sX11_canDo_203 {l0 l1 l2 l3 : Option Value} {x : Int32} : ok d mX11_canDo n0 Q n c w 203 (l0 :: l1 :: l2 :: l3 :: some (.int x) :: ls) st M = ok d mX11_canDo n0 Q n c w 205 (l0 :: l1 :: l2 :: l3 :: some (.int x) :: ls) (.int x :: st) M := ok_r rfl rfl
set_option maxRecDepth 100000 in
theorem sX11_canDo_205 {b : Nat} {a0 : Int32} : ok d mX11_canDo n0 Q n 0 0 205 ls [.int a0, .ref b] M = (am_ob n b 11 ∧ am_big d mX11_isThere [.ref b, .int a0] n M (kI fun x M' => ok d mX11_canDo n0 Q n 0 0 208 ls (.int x :: []) M')) := ok_vir (y := mX11_canDo) (y' := mX11_isThere) (pc := 205) (k := 338) (ps := [1582, 1584, 64, 110, 1585]) (c := 0) (w := 0) (st := [.int a0, .ref b]) (as := [.ref b, .int a0]) (rest := []) (b := b) rfl rfl rfl ⟨Nat.le_of_ble_eq_true rfl, Nat.le_of_ble_eq_true rfl, Nat.le_of_ble_eq_true rfl, Nat.le_of_ble_eq_true rfl, Nat.le_of_ble_eq_true rfl⟩ rfl rfl (am_contI (Or.inr rfl) rfl)
set_option maxRecDepth 100000 in
theorem sX11_canDo_208 {x : Int32} : ok d mX11_canDo n0 Q n c w 208 ls (.int x :: st) M = ((x = 0 → ok d mX11_canDo n0 Q n c w 251 ls st M) ∧ (¬ (x = 0) → ok d mX11_canDo n0 Q n c w 211 ls st M)) := ok_ifc (pc := 208) (off := 43) (k := .eq) rfl 251 (by decide)
set_option maxRecDepth 100000 in
theorem sX11_canDo_211 {l0 l1 l2 : Option Value} {x : Int32} : ok d mX11_canDo n0 Q n c w 211 (l0 :: l1 :: l2 :: some (.int x) :: ls) st M = ok d mX11_canDo n0 Q n c w 212 (l0 :: l1 :: l2 :: some (.int x) :: ls) (.int x :: st) M := ok_r rfl rfl
set_option maxRecDepth 100000 in
theorem sX11_canDo_212 {l0 l1 l2 l3 : Option Value} {x : Int32} : ok d mX11_canDo n0 Q n c w 212 (l0 :: l1 :: l2 :: l3 :: some (.int x) :: ls) st M = ok d mX11_canDo n0 Q n c w 214 (l0 :: l1 :: l2 :: l3 :: some (.int x) :: ls) (.int x :: st) M := ok_r rfl rfl
set_option maxRecDepth 100000 in
theorem sX11_canDo_214 {x z : Int32} : ok d mX11_canDo n0 Q n c w 214 ls (.int z :: .int x :: st) M = ((x = z → ok d mX11_canDo n0 Q n c w 251 ls st M) ∧ (¬ (x = z) → ok d mX11_canDo n0 Q n c w 217 ls st M)) := ok_ico (pc := 214) (off := 37) (k := .eq) rfl 251 (by decide)
set_option maxRecDepth 100000 in
theorem sX11_canDo_217 {x : Nat} : ok d mX11_canDo n0 Q n c w 217 (some (.ref x) :: ls) st M = ok d mX11_canDo n0 Q n c w 218 (some (.ref x) :: ls) (.ref x :: st) M := ok_r rfl rfl
set_option maxRecDepth 100000 in
theorem sX11_canDo_218 {a : Nat} : ok d mX11_canDo n0 Q n c w 218 ls (.ref a :: st) M = (am_ob n a 11 ∧ ok d mX11_canDo n0 Q n c w 221 ls (am_rv (gR M a 35) :: st) M) := ok_get (q := (11, 35, 2, true, 1230)) rfl rfl rfl rfl
set_option maxRecDepth 100000 in
theorem sX11_canDo_221 {l0 l1 l2 : Option Value} {x : Int32} : ok d mX11_canDo n0 Q n c w 221 (l0 :: l1 :: l2 :: some (.int x) :: ls) st M = ok d mX11_canDo n0 Q n c w 222 (l0 :: l1 :: l2 :: some (.int x) :: ls) (.int x :: st) M := ok_r rfl rfl
set_option maxRecDepth 100000 in
theorem sX11_canDo_222 {a : Nat} {i : Int32} : ok d mX11_canDo n0 Q n c w 222 ls (.int i :: .ref a :: st) M = (am_in n M a 1 i ∧ ok d mX11_canDo n0 Q n c w 223 ls (.int (gI M a i.toNatClampNeg) :: st) M) := ok_r rfl rfl
set_option maxRecDepth 100000 in
theorem sX11_canDo_223 : ok d mX11_canDo n0 Q n c w 223 ls st M = ok d mX11_canDo n0 Q n c w 224 ls (.int (-1) :: st) M := ok_r rfl (by rw [← ic_m1]; rfl)
set_option maxRecDepth 100000 in
theorem sX11_canDo_224 {x z : Int32} : ok d mX11_canDo n0 Q n c w 224 ls (.int z :: .int x :: st) M = ((¬ x = z → ok d mX11_canDo n0 Q n c w 251 ls st M) ∧ (¬ (¬ x = z) → ok d mX11_canDo n0 Q n c w 227 ls st M)) := ok_ico (pc := 224) (off := 27) (k := .ne) rfl 251 (by decide)
set_option maxRecDepth 100000 in
theorem sX11_canDo_227 {x : Nat} : ok d mX11_canDo n0 Q n c w 227 (some (.ref x) :: ls) st M = ok d mX11_canDo n0 Q n c w 228 (some (.ref x) :: ls) (.ref x :: st) M := ok_r rfl rfl
set_option maxRecDepth 100000 in
theorem sX11_canDo_228 {a : Nat} : ok d mX11_canDo n0 Q n c w 228 ls (.ref a :: st) M = (am_ob n a 11 ∧ ok d mX11_canDo n0 Q n c w 231 ls (am_rv (gR M a 36) :: st) M) := ok_get (q := (11, 36, 2, true, 1231)) rfl rfl rfl rfl
set_option maxRecDepth 100000 in
theorem sX11_canDo_231 {l0 l1 l2 l3 : Option Value} {x : Int32} : ok d mX11_canDo n0 Q n c w 231 (l0 :: l1 :: l2 :: l3 :: some (.int x) :: ls) st M = ok d mX11_canDo n0 Q n c w 233 (l0 :: l1 :: l2 :: l3 :: some (.int x) :: ls) (.int x :: st) M := ok_r rfl rfl
set_option maxRecDepth 100000 in
theorem sX11_canDo_233 {a : Nat} {i : Int32} : ok d mX11_canDo n0 Q n c w 233 ls (.int i :: .ref a :: st) M = (am_in n M a 1 i ∧ ok d mX11_canDo n0 Q n c w 234 ls (.int (gI M a i.toNatClampNeg) :: st) M) := ok_r rfl rfl
set_option maxRecDepth 100000 in
theorem sX11_canDo_234 {x : Int32} : ok d mX11_canDo n0 Q n c w 234 ls (.int x :: st) M = ((¬ x = 0 → ok d mX11_canDo n0 Q n c w 251 ls st M) ∧ (¬ (¬ x = 0) → ok d mX11_canDo n0 Q n c w 237 ls st M)) := ok_ifc (pc := 234) (off := 17) (k := .ne) rfl 251 (by decide)
set_option maxRecDepth 100000 in
theorem sX11_canDo_237 {x : Nat} : ok d mX11_canDo n0 Q n c w 237 (some (.ref x) :: ls) st M = ok d mX11_canDo n0 Q n c w 238 (some (.ref x) :: ls) (.ref x :: st) M := ok_r rfl rfl
set_option maxRecDepth 100000 in
theorem sX11_canDo_238 {l0 l1 l2 l3 : Option Value} {x : Int32} : ok d mX11_canDo n0 Q n c w 238 (l0 :: l1 :: l2 :: l3 :: some (.int x) :: ls) st M = ok d mX11_canDo n0 Q n c w 240 (l0 :: l1 :: l2 :: l3 :: some (.int x) :: ls) (.int x :: st) M := ok_r rfl rfl
set_option maxRecDepth 100000 in
theorem sX11_canDo_240 {l0 l1 l2 : Option Value} {x : Int32} : ok d mX11_canDo n0 Q n c w 240 (l0 :: l1 :: l2 :: some (.int x) :: ls) st M = ok d mX11_canDo n0 Q n c w 241 (l0 :: l1 :: l2 :: some (.int x) :: ls) (.int x :: st) M := ok_r rfl rfl
set_option maxRecDepth 100000 in
theorem sX11_canDo_241 {b : Nat} {a0 : Int32} {a1 : Int32} : ok d mX11_canDo n0 Q n 0 0 241 ls [.int a1, .int a0, .ref b] M = (am_ob n b 11 ∧ am_big d mX11_doesStandOn [.ref b, .int a0, .int a1] n M (kI fun x M' => ok d mX11_canDo n0 Q n 0 0 244 ls (.int x :: []) M')) := ok_vir (y := mX11_canDo) (y' := mX11_doesStandOn) (pc := 241) (k := 341) (ps := [1624, 1626, 69, 110, 1627]) (c := 0) (w := 0) (st := [.int a1, .int a0, .ref b]) (as := [.ref b, .int a0, .int a1]) (rest := []) (b := b) rfl rfl rfl ⟨Nat.le_of_ble_eq_true rfl, Nat.le_of_ble_eq_true rfl, Nat.le_of_ble_eq_true rfl, Nat.le_of_ble_eq_true rfl, Nat.le_of_ble_eq_true rfl⟩ rfl rfl (am_contI (Or.inr rfl) rfl)
set_option maxRecDepth 100000 in
theorem sX11_canDo_244 {x : Int32} : ok d mX11_canDo n0 Q n c w 244 ls (.int x :: st) M = ((¬ x = 0 → ok d mX11_canDo n0 Q n c w 251 ls st M) ∧ (¬ (¬ x = 0) → ok d mX11_canDo n0 Q n c w 247 ls st M)) := ok_ifc (pc := 244) (off := 7) (k := .ne) rfl 251 (by decide)
set_option maxRecDepth 100000 in
theorem sX11_canDo_247 : ok d mX11_canDo n0 Q n c w 247 ls st M = ok d mX11_canDo n0 Q n c w 248 ls (.int 1 :: st) M := ok_r rfl (by rw [← ic_1]; rfl)
set_option maxRecDepth 100000 in
theorem sX11_canDo_248 : ok d mX11_canDo n0 Q n c w 248 ls st M = ok d mX11_canDo n0 Q n c w 252 ls st M := ok_got (pc := 248) (off := 4) rfl 252 (by decide)
set_option maxRecDepth 100000 in
theorem sX11_canDo_251 : ok d mX11_canDo n0 Q n c w 251 ls st M = ok d mX11_canDo n0 Q n c w 252 ls (.int 0 :: st) M := ok_r rfl (by rw [← ic_0]; rfl)
set_option maxRecDepth 100000 in
theorem sX11_canDo_252 {x : Int32} : ok d mX11_canDo n Q n 0 0 252 ls [.int x] M = ((x = 0 ∨ x = 1) ∧ Q (some (.int x)) M) := ok_reZ rfl rfl ⟨rfl, rfl, rfl⟩
theorem eX11_canDo {a0 : Nat} {a1 : Nat} {a2 : Int32} {a3 : Int32} {a4 : Int32} {n : Nat} {M : am_M} {Q : am_Q} : am_big (d + 1) mX11_canDo [.ref a0, .ref a1, .int a2, .int a3, .int a4] n M Q = ok d mX11_canDo n Q n 0 0 0 [some (.ref a0), some (.ref a1), some (.int a2), some (.int a3), some (.int a4)] [] M := rfl
theorem sX11_does_0 : ok d mX11_does n0 Q n c w 0 ls st M = ok d mX11_does n0 Q n c w 1 ls (.int 3 :: st) M := ok_r rfl (by rw [← ic_3]; rfl)
theorem sX11_does_1 {x : Nat} : ok d mX11_does n0 Q n c w 1 (some (.ref x) :: ls) st M = ok d mX11_does n0 Q n c w 2 (some (.ref x) :: ls) (.ref x :: st) M := ok_r rfl rfl
theorem sX11_does_2 : ok d mX11_does n0 Q n c w 2 ls st M = ok d mX11_does n0 Q n c w 4 ls (.int 36 :: st) M := ok_r rfl (by rw [← bc_36]; rfl)
theorem sX11_does_4 {a : Nat} {i : Int32} : ok d mX11_does n0 Q n c w 4 ls (.int i :: .ref a :: st) M = (am_in n M a 1 i ∧ ok d mX11_does n0 Q n c w 5 ls (.int (gI M a i.toNatClampNeg) :: st) M) := ok_r rfl rfl
theorem sX11_does_5 {x z : Int32} : ok d mX11_does n0 Q n c w 5 ls (.int z :: .int x :: st) M = ok d mX11_does n0 Q n c w 6 ls (.int (x * z) :: st) M := ok_r rfl rfl
theorem sX11_does_6 {l0 l1 l2 l3 l4 : Option Value} {x : Int32} : ok d mX11_does n0 Q n c w 6 (l0 :: l1 :: l2 :: l3 :: l4 :: ls) (.int x :: st) M = ok d mX11_does n0 Q n c w 8 (l0 :: l1 :: l2 :: am_kl l3 :: some (.int x) :: ls) st M := ok_ist (k := 4) rfl (Or.inl rfl) (by decide) rfl rfl
theorem sX11_does_8 {x : Nat} : ok d mX11_does n0 Q n c w 8 (some (.ref x) :: ls) st M = ok d mX11_does n0 Q n c w 9 (some (.ref x) :: ls) (.ref x :: st) M := ok_r rfl rfl
theorem sX11_does_9 {l0 l1 l2 l3 : Option Value} {x : Int32} : ok d mX11_does n0 Q n c w 9 (l0 :: l1 :: l2 :: l3 :: some (.int x) :: ls) st M = ok d mX11_does n0 Q n c w 11 (l0 :: l1 :: l2 :: l3 :: some (.int x) :: ls) (.int x :: st) M := ok_r rfl rfl
theorem sX11_does_11 {l0 : Option Value} {x : Int32} : ok d mX11_does n0 Q n c w 11 (l0 :: some (.int x) :: ls) st M = ok d mX11_does n0 Q n c w 12 (l0 :: some (.int x) :: ls) (.int x :: st) M := ok_r rfl rfl
theorem sX11_does_12 {a : Nat} {i x : Int32} : ok d mX11_does n0 Q n c w 12 ls (.int x :: .int i :: .ref a :: st) M = (am_iw n a 1 i ∧ ok d mX11_does n0 Q n c w 13 ls st (sI M a i.toNatClampNeg x)) := ok_r rfl rfl
theorem sX11_does_13 {x : Nat} : ok d mX11_does n0 Q n c w 13 (some (.ref x) :: ls) st M = ok d mX11_does n0 Q n c w 14 (some (.ref x) :: ls) (.ref x :: st) M := ok_r rfl rfl
theorem sX11_does_14 {l0 l1 l2 l3 : Option Value} {x : Int32} : ok d mX11_does n0 Q n c w 14 (l0 :: l1 :: l2 :: l3 :: some (.int x) :: ls) st M = ok d mX11_does n0 Q n c w 16 (l0 :: l1 :: l2 :: l3 :: some (.int x) :: ls) (.int x :: st) M := ok_r rfl rfl
theorem sX11_does_16 : ok d mX11_does n0 Q n c w 16 ls st M = ok d mX11_does n0 Q n c w 17 ls (.int 1 :: st) M := ok_r rfl (by rw [← ic_1]; rfl)
theorem sX11_does_17 {x z : Int32} : ok d mX11_does n0 Q n c w 17 ls (.int z :: .int x :: st) M = ok d mX11_does n0 Q n c w 18 ls (.int (x + z) :: st) M := ok_r rfl rfl
theorem sX11_does_18 {l0 l1 : Option Value} {x : Int32} : ok d mX11_does n0 Q n c w 18 (l0 :: l1 :: some (.int x) :: ls) st M = ok d mX11_does n0 Q n c w 19 (l0 :: l1 :: some (.int x) :: ls) (.int x :: st) M := ok_r rfl rfl
theorem sX11_does_19 {a : Nat} {i x : Int32} : ok d mX11_does n0 Q n c w 19 ls (.int x :: .int i :: .ref a :: st) M = (am_iw n a 1 i ∧ ok d mX11_does n0 Q n c w 20 ls st (sI M a i.toNatClampNeg x)) := ok_r rfl rfl
theorem sX11_does_20 {x : Nat} : ok d mX11_does n0 Q n c w 20 (some (.ref x) :: ls) st M = ok d mX11_does n0 Q n c w 21 (some (.ref x) :: ls) (.ref x :: st) M := ok_r rfl rfl
theorem sX11_does_21 {l0 l1 l2 l3 : Option Value} {x : Int32} : ok d mX11_does n0 Q n c w 21 (l0 :: l1 :: l2 :: l3 :: some (.int x) :: ls) st M = ok d mX11_does n0 Q n c w 23 (l0 :: l1 :: l2 :: l3 :: some (.int x) :: ls) (.int x :: st) M := ok_r rfl rfl
theorem sX11_does_23 : ok d mX11_does n0 Q n c w 23 ls st M = ok d mX11_does n0 Q n c w 24 ls (.int 2 :: st) M := ok_r rfl (by rw [← ic_2]; rfl)
theorem sX11_does_24 {x z : Int32} : ok d mX11_does n0 Q n c w 24 ls (.int z :: .int x :: st) M = ok d mX11_does n0 Q n c w 25 ls (.int (x + z) :: st) M := ok_r rfl rfl
theorem sX11_does_25 {l0 : Option Value} {x : Int32} : ok d mX11_does n0 Q n c w 25 (l0 :: some (.int x) :: ls) st M = ok d mX11_does n0 Q n c w 26 (l0 :: some (.int x) :: ls) (.int x :: st) M := ok_r rfl rfl
theorem sX11_does_26 {v0 : Nat} {v1 : Int32} {a0 : Int32} : ok d mX11_does n0 Q n 0 0 26 ls [.int a0, .int v1, .ref v0] M = am_big d mX11_hasX [.int a0] n M (kI fun x M' => ok d mX11_does n0 Q n 0 0 29 ls (.int x :: .int v1 :: .ref v0 :: []) M') := ok_sta (y := mX11_does) (y' := mX11_hasX) (pc := 26) (k := 282) (ps := [1558, 1559, 110, 1560]) (c := 0) (w := 0) (st := [.int a0, .int v1, .ref v0]) (as := [.int a0]) (rest := [.int v1, .ref v0]) (kd := 1) rfl rfl (by decide) ⟨Nat.le_of_ble_eq_true rfl, Nat.le_of_ble_eq_true rfl, Nat.le_of_ble_eq_true rfl, Nat.le_of_ble_eq_true rfl, Nat.le_of_ble_eq_true rfl⟩ rfl rfl (am_contI (Or.inr rfl) rfl)
theorem sX11_does_29 {x : Int32} : ok d mX11_does n0 Q n c w 29 ls (.int x :: st) M = ((x = 0 → ok d mX11_does n0 Q n c w 36 ls st M) ∧ (¬ (x = 0) → ok d mX11_does n0 Q n c w 32 ls st M)) := ok_ifc (pc := 29) (off := 7) (k := .eq) rfl 36 (by decide)
theorem sX11_does_32 {l0 l1 l2 : Option Value} {x : Int32} : ok d mX11_does n0 Q n c w 32 (l0 :: l1 :: l2 :: some (.int x) :: ls) st M = ok d mX11_does n0 Q n c w 33 (l0 :: l1 :: l2 :: some (.int x) :: ls) (.int x :: st) M := ok_r rfl rfl
theorem sX11_does_33 : ok d mX11_does n0 Q n c w 33 ls st M = ok d mX11_does n0 Q n c w 37 ls st M := ok_got (pc := 33) (off := 4) rfl 37 (by decide)
theorem sX11_does_36 : ok d mX11_does n0 Q n c w 36 ls st M = ok d mX11_does n0 Q n c w 37 ls (.int 0 :: st) M := ok_r rfl (by rw [← ic_0]; rfl)
theorem sX11_does_37 {a : Nat} {i x : Int32} : ok d mX11_does n0 Q n c w 37 ls (.int x :: .int i :: .ref a :: st) M = (am_iw n a 1 i ∧ ok d mX11_does n0 Q n c w 38 ls st (sI M a i.toNatClampNeg x)) := ok_r rfl rfl
theorem sX11_does_38 {x : Nat} : ok d mX11_does n0 Q n c w 38 (some (.ref x) :: ls) st M = ok d mX11_does n0 Q n c w 39 (some (.ref x) :: ls) (.ref x :: st) M := ok_r rfl rfl
theorem sX11_does_39 : ok d mX11_does n0 Q n c w 39 ls st M = ok d mX11_does n0 Q n c w 41 ls (.int 36 :: st) M := ok_r rfl (by rw [← bc_36]; rfl)
theorem sX11_does_41 {x : Nat} {z : Int32} : ok d mX11_does n0 Q n c w 41 ls (.int z :: .ref x :: st) M = ok d mX11_does n0 Q n c w 42 ls (.int z :: .ref x :: .int z :: .ref x :: st) M := ok_r rfl rfl
theorem sX11_does_42 {a : Nat} {i : Int32} : ok d mX11_does n0 Q n c w 42 ls (.int i :: .ref a :: st) M = (am_in n M a 1 i ∧ ok d mX11_does n0 Q n c w 43 ls (.int (gI M a i.toNatClampNeg) :: st) M) := ok_r rfl rfl
theorem sX11_does_43 : ok d mX11_does n0 Q n c w 43 ls st M = ok d mX11_does n0 Q n c w 44 ls (.int 1 :: st) M := ok_r rfl (by rw [← ic_1]; rfl)
theorem sX11_does_44 {x z : Int32} : ok d mX11_does n0 Q n c w 44 ls (.int z :: .int x :: st) M = ok d mX11_does n0 Q n c w 45 ls (.int (x + z) :: st) M := ok_r rfl rfl
theorem sX11_does_45 {a : Nat} {i x : Int32} : ok d mX11_does n0 Q n c w 45 ls (.int x :: .int i :: .ref a :: st) M = (am_iw n a 1 i ∧ ok d mX11_does n0 Q n c w 46 ls st (sI M a i.toNatClampNeg x)) := ok_r rfl rfl
theorem sX11_does_46 : ok d mX11_does n Q n 0 0 46 ls [] M = Q none M := (ok_reV rfl rfl).trans (am_andT ⟨rfl, rfl, rfl⟩)
theorem eX11_does {a0 : Nat} {a1 : Int32} {a2 : Int32} {a3 : Int32} {n : Nat} {M : am_M} {Q : am_Q} : am_big (d + 1) mX11_does [.ref a0, .int a1, .int a2, .int a3] n M Q = ok d mX11_does n Q n 0 0 0 [some (.ref a0), some (.int a1), some (.int a2), some (.int a3), none] [] M := rfl
theorem sX11_gone_0 {x : Nat} : ok d mX11_gone n0 Q n c w 0 (some (.ref x) :: ls) st M = ok d mX11_gone n0 Q n c w 1 (some (.ref x) :: ls) (.ref x :: st) M := ok_r rfl rfl
theorem sX11_gone_1 : ok d mX11_gone n0 Q n c w 1 ls st M = ok d mX11_gone n0 Q n c w 3 ls (.int 36 :: st) M := ok_r rfl (by rw [← bc_36]; rfl)
theorem sX11_gone_3 {x : Nat} {z : Int32} : ok d mX11_gone n0 Q n c w 3 ls (.int z :: .ref x :: st) M = ok d mX11_gone n0 Q n c w 4 ls (.int z :: .ref x :: .int z :: .ref x :: st) M := ok_r rfl rfl
theorem sX11_gone_4 {a : Nat} {i : Int32} : ok d mX11_gone n0 Q n c w 4 ls (.int i :: .ref a :: st) M = (am_in n M a 1 i ∧ ok d mX11_gone n0 Q n c w 5 ls (.int (gI M a i.toNatClampNeg) :: st) M) := ok_r rfl rfl
theorem sX11_gone_5 : ok d mX11_gone n0 Q n c w 5 ls st M = ok d mX11_gone n0 Q n c w 6 ls (.int 1 :: st) M := ok_r rfl (by rw [← ic_1]; rfl)
theorem sX11_gone_6 {x z : Int32} : ok d mX11_gone n0 Q n c w 6 ls (.int z :: .int x :: st) M = ok d mX11_gone n0 Q n c w 7 ls (.int (x - z) :: st) M := ok_r rfl rfl
theorem sX11_gone_7 {a : Nat} {i x : Int32} : ok d mX11_gone n0 Q n c w 7 ls (.int x :: .int i :: .ref a :: st) M = (am_iw n a 1 i ∧ ok d mX11_gone n0 Q n c w 8 ls st (sI M a i.toNatClampNeg x)) := ok_r rfl rfl
theorem sX11_gone_8 : ok d mX11_gone n0 Q n c w 8 ls st M = ok d mX11_gone n0 Q n c w 9 ls (.int 3 :: st) M := ok_r rfl (by rw [← ic_3]; rfl)
theorem sX11_gone_9 {l0 : Option Value} {x : Int32} : ok d mX11_gone n0 Q n c w 9 (l0 :: some (.int x) :: ls) st M = ok d mX11_gone n0 Q n c w 10 (l0 :: some (.int x) :: ls) (.int x :: st) M := ok_r rfl rfl
theorem sX11_gone_10 {x z : Int32} : ok d mX11_gone n0 Q n c w 10 ls (.int z :: .int x :: st) M = ok d mX11_gone n0 Q n c w 11 ls (.int (x * z) :: st) M := ok_r rfl rfl
theorem sX11_gone_11 {l0 l1 l2 : Option Value} {x : Int32} : ok d mX11_gone n0 Q n c w 11 (l0 :: l1 :: l2 :: ls) (.int x :: st) M = ok d mX11_gone n0 Q n c w 12 (l0 :: am_kl l1 :: some (.int x) :: ls) st M := ok_ist (k := 2) rfl (Or.inr ⟨_, rfl, rfl⟩) (by decide) rfl rfl
theorem sX11_gone_12 {l0 l1 : Option Value} {x : Int32} : ok d mX11_gone n0 Q n c w 12 (l0 :: l1 :: some (.int x) :: ls) st M = ok d mX11_gone n0 Q n c w 13 (l0 :: l1 :: some (.int x) :: ls) (.int x :: st) M := ok_r rfl rfl
theorem sX11_gone_13 : ok d mX11_gone n0 Q n c w 13 ls st M = ok d mX11_gone n0 Q n c w 14 ls (.int 3 :: st) M := ok_r rfl (by rw [← ic_3]; rfl)
theorem sX11_gone_14 {x : Nat} : ok d mX11_gone n0 Q n c w 14 (some (.ref x) :: ls) st M = ok d mX11_gone n0 Q n c w 15 (some (.ref x) :: ls) (.ref x :: st) M := ok_r rfl rfl
theorem sX11_gone_15 : ok d mX11_gone n0 Q n c w 15 ls st M = ok d mX11_gone n0 Q n c w 17 ls (.int 36 :: st) M := ok_r rfl (by rw [← bc_36]; rfl)
theorem sX11_gone_17 {a : Nat} {i : Int32} : ok d mX11_gone n0 Q n c w 17 ls (.int i :: .ref a :: st) M = (am_in n M a 1 i ∧ ok d mX11_gone n0 Q n c w 18 ls (.int (gI M a i.toNatClampNeg) :: st) M) := ok_r rfl rfl
theorem sX11_gone_18 {x z : Int32} : ok d mX11_gone n0 Q n c w 18 ls (.int z :: .int x :: st) M = ok d mX11_gone n0 Q n c w 19 ls (.int (x * z) :: st) M := ok_r rfl rfl
theorem sX11_gone_19 {x z : Int32} : ok d mX11_gone n0 Q n c w 19 ls (.int z :: .int x :: st) M = ((z ≤ x → ok d mX11_gone n0 Q n c w 36 ls st M) ∧ (¬ (z ≤ x) → ok d mX11_gone n0 Q n c w 22 ls st M)) := ok_ico (pc := 19) (off := 17) (k := .ge) rfl 36 (by decide)
theorem sX11_gone_22 {x : Nat} : ok d mX11_gone n0 Q n c w 22 (some (.ref x) :: ls) st M = ok d mX11_gone n0 Q n c w 23 (some (.ref x) :: ls) (.ref x :: st) M := ok_r rfl rfl
theorem sX11_gone_23 {l0 l1 : Option Value} {x : Int32} : ok d mX11_gone n0 Q n c w 23 (l0 :: l1 :: some (.int x) :: ls) st M = ok d mX11_gone n0 Q n c w 24 (l0 :: l1 :: some (.int x) :: ls) (.int x :: st) M := ok_r rfl rfl
theorem sX11_gone_24 {x : Nat} : ok d mX11_gone n0 Q n c w 24 (some (.ref x) :: ls) st M = ok d mX11_gone n0 Q n c w 25 (some (.ref x) :: ls) (.ref x :: st) M := ok_r rfl rfl
theorem sX11_gone_25 {l0 l1 : Option Value} {x : Int32} : ok d mX11_gone n0 Q n c w 25 (l0 :: l1 :: some (.int x) :: ls) st M = ok d mX11_gone n0 Q n c w 26 (l0 :: l1 :: some (.int x) :: ls) (.int x :: st) M := ok_r rfl rfl
theorem sX11_gone_26 : ok d mX11_gone n0 Q n c w 26 ls st M = ok d mX11_gone n0 Q n c w 27 ls (.int 3 :: st) M := ok_r rfl (by rw [← ic_3]; rfl)
theorem sX11_gone_27 {x z : Int32} : ok d mX11_gone n0 Q n c w 27 ls (.int z :: .int x :: st) M = ok d mX11_gone n0 Q n c w 28 ls (.int (x + z) :: st) M := ok_r rfl rfl
theorem sX11_gone_28 {a : Nat} {i : Int32} : ok d mX11_gone n0 Q n c w 28 ls (.int i :: .ref a :: st) M = (am_in n M a 1 i ∧ ok d mX11_gone n0 Q n c w 29 ls (.int (gI M a i.toNatClampNeg) :: st) M) := ok_r rfl rfl
theorem sX11_gone_29 {a : Nat} {i x : Int32} : ok d mX11_gone n0 Q n c w 29 ls (.int x :: .int i :: .ref a :: st) M = (am_iw n a 1 i ∧ ok d mX11_gone n0 Q n c w 30 ls st (sI M a i.toNatClampNeg x)) := ok_r rfl rfl
theorem sX11_gone_30 {l0 l1 : Option Value} {x : Int32} : ok d mX11_gone n0 Q n c w 30 (l0 :: l1 :: some (.int x) :: ls) st M = ok d mX11_gone n0 Q n c w 33 (l0 :: am_kl l1 :: some (.int (x + 1)) :: ls) st M := ok_inc (k := 2) rfl rfl ic_1 (by decide) rfl rfl
theorem sX11_gone_33 : ok d mX11_gone n0 Q n c w 33 ls st M = ok d mX11_gone n0 Q n c w 12 ls st M := ok_got (pc := 33) (off := (-21)) rfl 12 (by decide)
theorem sX11_gone_36 : ok d mX11_gone n0 Q n c w 36 ls st M = ok d mX11_gone n0 Q n c w 37 ls (.int 0 :: st) M := ok_r rfl (by rw [← ic_0]; rfl)
theorem sX11_gone_37 {l0 l1 l2 : Option Value} {x : Int32} : ok d mX11_gone n0 Q n c w 37 (l0 :: l1 :: l2 :: ls) (.int x :: st) M = ok d mX11_gone n0 Q n c w 38 (l0 :: am_kl l1 :: some (.int x) :: ls) st M := ok_ist (k := 2) rfl (Or.inr ⟨_, rfl, rfl⟩) (by decide) rfl rfl
theorem sX11_gone_38 {l0 l1 : Option Value} {x : Int32} : ok d mX11_gone n0 Q n c w 38 (l0 :: l1 :: some (.int x) :: ls) st M = ok d mX11_gone n0 Q n c w 39 (l0 :: l1 :: some (.int x) :: ls) (.int x :: st) M := ok_r rfl rfl
theorem sX11_gone_39 : ok d mX11_gone n0 Q n c w 39 ls st M = ok d mX11_gone n0 Q n c w 40 ls (.int 3 :: st) M := ok_r rfl (by rw [← ic_3]; rfl)
theorem sX11_gone_40 {x z : Int32} : ok d mX11_gone n0 Q n c w 40 ls (.int z :: .int x :: st) M = ((z ≤ x → ok d mX11_gone n0 Q n c w 60 ls st M) ∧ (¬ (z ≤ x) → ok d mX11_gone n0 Q n c w 43 ls st M)) := ok_ico (pc := 40) (off := 20) (k := .ge) rfl 60 (by decide)
theorem sX11_gone_43 {x : Nat} : ok d mX11_gone n0 Q n c w 43 (some (.ref x) :: ls) st M = ok d mX11_gone n0 Q n c w 44 (some (.ref x) :: ls) (.ref x :: st) M := ok_r rfl rfl
theorem sX11_gone_44 : ok d mX11_gone n0 Q n c w 44 ls st M = ok d mX11_gone n0 Q n c w 45 ls (.int 3 :: st) M := ok_r rfl (by rw [← ic_3]; rfl)
theorem sX11_gone_45 {x : Nat} : ok d mX11_gone n0 Q n c w 45 (some (.ref x) :: ls) st M = ok d mX11_gone n0 Q n c w 46 (some (.ref x) :: ls) (.ref x :: st) M := ok_r rfl rfl
theorem sX11_gone_46 : ok d mX11_gone n0 Q n c w 46 ls st M = ok d mX11_gone n0 Q n c w 48 ls (.int 36 :: st) M := ok_r rfl (by rw [← bc_36]; rfl)
theorem sX11_gone_48 {a : Nat} {i : Int32} : ok d mX11_gone n0 Q n c w 48 ls (.int i :: .ref a :: st) M = (am_in n M a 1 i ∧ ok d mX11_gone n0 Q n c w 49 ls (.int (gI M a i.toNatClampNeg) :: st) M) := ok_r rfl rfl
theorem sX11_gone_49 {x z : Int32} : ok d mX11_gone n0 Q n c w 49 ls (.int z :: .int x :: st) M = ok d mX11_gone n0 Q n c w 50 ls (.int (x * z) :: st) M := ok_r rfl rfl
theorem sX11_gone_50 {l0 l1 : Option Value} {x : Int32} : ok d mX11_gone n0 Q n c w 50 (l0 :: l1 :: some (.int x) :: ls) st M = ok d mX11_gone n0 Q n c w 51 (l0 :: l1 :: some (.int x) :: ls) (.int x :: st) M := ok_r rfl rfl
theorem sX11_gone_51 {x z : Int32} : ok d mX11_gone n0 Q n c w 51 ls (.int z :: .int x :: st) M = ok d mX11_gone n0 Q n c w 52 ls (.int (x + z) :: st) M := ok_r rfl rfl
theorem sX11_gone_52 : ok d mX11_gone n0 Q n c w 52 ls st M = ok d mX11_gone n0 Q n c w 53 ls (.int 0 :: st) M := ok_r rfl (by rw [← ic_0]; rfl)
theorem sX11_gone_53 {a : Nat} {i x : Int32} : ok d mX11_gone n0 Q n c w 53 ls (.int x :: .int i :: .ref a :: st) M = (am_iw n a 1 i ∧ ok d mX11_gone n0 Q n c w 54 ls st (sI M a i.toNatClampNeg x)) := ok_r rfl rfl
theorem sX11_gone_54 {l0 l1 : Option Value} {x : Int32} : ok d mX11_gone n0 Q n c w 54 (l0 :: l1 :: some (.int x) :: ls) st M = ok d mX11_gone n0 Q n c w 57 (l0 :: am_kl l1 :: some (.int (x + 1)) :: ls) st M := ok_inc (k := 2) rfl rfl ic_1 (by decide) rfl rfl
theorem sX11_gone_57 : ok d mX11_gone n0 Q n c w 57 ls st M = ok d mX11_gone n0 Q n c w 38 ls st M := ok_got (pc := 57) (off := (-19)) rfl 38 (by decide)
theorem sX11_gone_60 : ok d mX11_gone n Q n 0 0 60 ls [] M = Q none M := (ok_reV rfl rfl).trans (am_andT ⟨rfl, rfl, rfl⟩)
theorem eX11_gone {a0 : Nat} {a1 : Int32} {n : Nat} {M : am_M} {Q : am_Q} : am_big (d + 1) mX11_gone [.ref a0, .int a1] n M Q = ok d mX11_gone n Q n 0 0 0 [some (.ref a0), some (.int a1), none] [] M := rfl
theorem sX11_needs0_0 {x : Nat} : ok d mX11_needs0 n0 Q n c w 0 (some (.ref x) :: ls) st M = ok d mX11_needs0 n0 Q n c w 1 (some (.ref x) :: ls) (.ref x :: st) M := ok_r rfl rfl
theorem sX11_needs0_1 : ok d mX11_needs0 n0 Q n c w 1 ls st M = ok d mX11_needs0 n0 Q n c w 2 ls (.int 3 :: st) M := ok_r rfl (by rw [← ic_3]; rfl)
theorem sX11_needs0_2 {l0 : Option Value} {x : Int32} : ok d mX11_needs0 n0 Q n c w 2 (l0 :: some (.int x) :: ls) st M = ok d mX11_needs0 n0 Q n c w 3 (l0 :: some (.int x) :: ls) (.int x :: st) M := ok_r rfl rfl
theorem sX11_needs0_3 {x z : Int32} : ok d mX11_needs0 n0 Q n c w 3 ls (.int z :: .int x :: st) M = ok d mX11_needs0 n0 Q n c w 4 ls (.int (x * z) :: st) M := ok_r rfl rfl
theorem sX11_needs0_4 {a : Nat} {i : Int32} : ok d mX11_needs0 n0 Q n c w 4 ls (.int i :: .ref a :: st) M = (am_in n M a 1 i ∧ ok d mX11_needs0 n0 Q n c w 5 ls (.int (gI M a i.toNatClampNeg) :: st) M) := ok_r rfl rfl
theorem sX11_needs0_5 {l0 l1 l2 l3 : Option Value} {x : Int32} : ok d mX11_needs0 n0 Q n c w 5 (l0 :: l1 :: l2 :: l3 :: ls) (.int x :: st) M = ok d mX11_needs0 n0 Q n c w 6 (l0 :: l1 :: am_kl l2 :: some (.int x) :: ls) st M := ok_ist (k := 3) rfl (Or.inr ⟨_, rfl, rfl⟩) (by decide) rfl rfl
theorem sX11_needs0_6 {x : Nat} : ok d mX11_needs0 n0 Q n c w 6 (some (.ref x) :: ls) st M = ok d mX11_needs0 n0 Q n c w 7 (some (.ref x) :: ls) (.ref x :: st) M := ok_r rfl rfl
theorem sX11_needs0_7 : ok d mX11_needs0 n0 Q n c w 7 ls st M = ok d mX11_needs0 n0 Q n c w 8 ls (.int 3 :: st) M := ok_r rfl (by rw [← ic_3]; rfl)
theorem sX11_needs0_8 {l0 : Option Value} {x : Int32} : ok d mX11_needs0 n0 Q n c w 8 (l0 :: some (.int x) :: ls) st M = ok d mX11_needs0 n0 Q n c w 9 (l0 :: some (.int x) :: ls) (.int x :: st) M := ok_r rfl rfl
theorem sX11_needs0_9 {x z : Int32} : ok d mX11_needs0 n0 Q n c w 9 ls (.int z :: .int x :: st) M = ok d mX11_needs0 n0 Q n c w 10 ls (.int (x * z) :: st) M := ok_r rfl rfl
theorem sX11_needs0_10 : ok d mX11_needs0 n0 Q n c w 10 ls st M = ok d mX11_needs0 n0 Q n c w 11 ls (.int 1 :: st) M := ok_r rfl (by rw [← ic_1]; rfl)
theorem sX11_needs0_11 {x z : Int32} : ok d mX11_needs0 n0 Q n c w 11 ls (.int z :: .int x :: st) M = ok d mX11_needs0 n0 Q n c w 12 ls (.int (x + z) :: st) M := ok_r rfl rfl
theorem sX11_needs0_12 {a : Nat} {i : Int32} : ok d mX11_needs0 n0 Q n c w 12 ls (.int i :: .ref a :: st) M = (am_in n M a 1 i ∧ ok d mX11_needs0 n0 Q n c w 13 ls (.int (gI M a i.toNatClampNeg) :: st) M) := ok_r rfl rfl
theorem sX11_needs0_13 {l0 l1 l2 l3 l4 : Option Value} {x : Int32} : ok d mX11_needs0 n0 Q n c w 13 (l0 :: l1 :: l2 :: l3 :: l4 :: ls) (.int x :: st) M = ok d mX11_needs0 n0 Q n c w 15 (l0 :: l1 :: l2 :: am_kl l3 :: some (.int x) :: ls) st M := ok_ist (k := 4) rfl (Or.inl rfl) (by decide) rfl rfl
theorem sX11_needs0_15 {x : Nat} : ok d mX11_needs0 n0 Q n c w 15 (some (.ref x) :: ls) st M = ok d mX11_needs0 n0 Q n c w 16 (some (.ref x) :: ls) (.ref x :: st) M := ok_r rfl rfl
theorem sX11_needs0_16 : ok d mX11_needs0 n0 Q n c w 16 ls st M = ok d mX11_needs0 n0 Q n c w 17 ls (.int 3 :: st) M := ok_r rfl (by rw [← ic_3]; rfl)
theorem sX11_needs0_17 {l0 : Option Value} {x : Int32} : ok d mX11_needs0 n0 Q n c w 17 (l0 :: some (.int x) :: ls) st M = ok d mX11_needs0 n0 Q n c w 18 (l0 :: some (.int x) :: ls) (.int x :: st) M := ok_r rfl rfl
theorem sX11_needs0_18 {x z : Int32} : ok d mX11_needs0 n0 Q n c w 18 ls (.int z :: .int x :: st) M = ok d mX11_needs0 n0 Q n c w 19 ls (.int (x * z) :: st) M := ok_r rfl rfl
theorem sX11_needs0_19 : ok d mX11_needs0 n0 Q n c w 19 ls st M = ok d mX11_needs0 n0 Q n c w 20 ls (.int 2 :: st) M := ok_r rfl (by rw [← ic_2]; rfl)
theorem sX11_needs0_20 {x z : Int32} : ok d mX11_needs0 n0 Q n c w 20 ls (.int z :: .int x :: st) M = ok d mX11_needs0 n0 Q n c w 21 ls (.int (x + z) :: st) M := ok_r rfl rfl
theorem sX11_needs0_21 {a : Nat} {i : Int32} : ok d mX11_needs0 n0 Q n c w 21 ls (.int i :: .ref a :: st) M = (am_in n M a 1 i ∧ ok d mX11_needs0 n0 Q n c w 22 ls (.int (gI M a i.toNatClampNeg) :: st) M) := ok_r rfl rfl
theorem sX11_needs0_22 {l0 l1 l2 l3 l4 l5 : Option Value} {x : Int32} : ok d mX11_needs0 n0 Q n c w 22 (l0 :: l1 :: l2 :: l3 :: l4 :: l5 :: ls) (.int x :: st) M = ok d mX11_needs0 n0 Q n c w 24 (l0 :: l1 :: l2 :: l3 :: am_kl l4 :: some (.int x) :: ls) st M := ok_ist (k := 5) rfl (Or.inl rfl) (by decide) rfl rfl
theorem sX11_needs0_24 {x : Nat} : ok d mX11_needs0 n0 Q n c w 24 (some (.ref x) :: ls) st M = ok d mX11_needs0 n0 Q n c w 25 (some (.ref x) :: ls) (.ref x :: st) M := ok_r rfl rfl
theorem sX11_needs0_25 : ok d mX11_needs0 n0 Q n c w 25 ls st M = ok d mX11_needs0 n0 Q n c w 26 ls (.int 3 :: st) M := ok_r rfl (by rw [← ic_3]; rfl)
theorem sX11_needs0_26 {l0 l1 : Option Value} {x : Int32} : ok d mX11_needs0 n0 Q n c w 26 (l0 :: l1 :: some (.int x) :: ls) st M = ok d mX11_needs0 n0 Q n c w 27 (l0 :: l1 :: some (.int x) :: ls) (.int x :: st) M := ok_r rfl rfl
theorem sX11_needs0_27 {x z : Int32} : ok d mX11_needs0 n0 Q n c w 27 ls (.int z :: .int x :: st) M = ok d mX11_needs0 n0 Q n c w 28 ls (.int (x * z) :: st) M := ok_r rfl rfl
theorem sX11_needs0_28 {a : Nat} {i : Int32} : ok d mX11_needs0 n0 Q n c w 28 ls (.int i :: .ref a :: st) M = (am_in n M a 1 i ∧ ok d mX11_needs0 n0 Q n c w 29 ls (.int (gI M a i.toNatClampNeg) :: st) M) := ok_r rfl rfl
theorem sX11_needs0_29 {l0 l1 l2 l3 l4 l5 l6 : Option Value} {x : Int32} : ok d mX11_needs0 n0 Q n c w 29 (l0 :: l1 :: l2 :: l3 :: l4 :: l5 :: l6 :: ls) (.int x :: st) M = ok d mX11_needs0 n0 Q n c w 31 (l0 :: l1 :: l2 :: l3 :: l4 :: am_kl l5 :: some (.int x) :: ls) st M := ok_ist (k := 6) rfl (Or.inl rfl) (by decide) rfl rfl
theorem sX11_needs0_31 {x : Nat} : ok d mX11_needs0 n0 Q n c w 31 (some (.ref x) :: ls) st M = ok d mX11_needs0 n0 Q n c w 32 (some (.ref x) :: ls) (.ref x :: st) M := ok_r rfl rfl
theorem sX11_needs0_32 : ok d mX11_needs0 n0 Q n c w 32 ls st M = ok d mX11_needs0 n0 Q n c w 33 ls (.int 3 :: st) M := ok_r rfl (by rw [← ic_3]; rfl)
theorem sX11_needs0_33 {l0 l1 : Option Value} {x : Int32} : ok d mX11_needs0 n0 Q n c w 33 (l0 :: l1 :: some (.int x) :: ls) st M = ok d mX11_needs0 n0 Q n c w 34 (l0 :: l1 :: some (.int x) :: ls) (.int x :: st) M := ok_r rfl rfl
theorem sX11_needs0_34 {x z : Int32} : ok d mX11_needs0 n0 Q n c w 34 ls (.int z :: .int x :: st) M = ok d mX11_needs0 n0 Q n c w 35 ls (.int (x * z) :: st) M := ok_r rfl rfl
theorem sX11_needs0_35 : ok d mX11_needs0 n0 Q n c w 35 ls st M = ok d mX11_needs0 n0 Q n c w 36 ls (.int 1 :: st) M := ok_r rfl (by rw [← ic_1]; rfl)
theorem sX11_needs0_36 {x z : Int32} : ok d mX11_needs0 n0 Q n c w 36 ls (.int z :: .int x :: st) M = ok d mX11_needs0 n0 Q n c w 37 ls (.int (x + z) :: st) M := ok_r rfl rfl
theorem sX11_needs0_37 {a : Nat} {i : Int32} : ok d mX11_needs0 n0 Q n c w 37 ls (.int i :: .ref a :: st) M = (am_in n M a 1 i ∧ ok d mX11_needs0 n0 Q n c w 38 ls (.int (gI M a i.toNatClampNeg) :: st) M) := ok_r rfl rfl
theorem sX11_needs0_38 {l0 l1 l2 l3 l4 l5 l6 l7 : Option Value} {x : Int32} : ok d mX11_needs0 n0 Q n c w 38 (l0 :: l1 :: l2 :: l3 :: l4 :: l5 :: l6 :: l7 :: ls) (.int x :: st) M = ok d mX11_needs0 n0 Q n c w 40 (l0 :: l1 :: l2 :: l3 :: l4 :: l5 :: am_kl l6 :: some (.int x) :: ls) st M := ok_ist (k := 7) rfl (Or.inl rfl) (by decide) rfl rfl
theorem sX11_needs0_40 {l0 l1 l2 l3 l4 l5 : Option Value} {x : Int32} : ok d mX11_needs0 n0 Q n c w 40 (l0 :: l1 :: l2 :: l3 :: l4 :: l5 :: some (.int x) :: ls) st M = ok d mX11_needs0 n0 Q n c w 42 (l0 :: l1 :: l2 :: l3 :: l4 :: l5 :: some (.int x) :: ls) (.int x :: st) M := ok_r rfl rfl
theorem sX11_needs0_42 {x : Int32} : ok d mX11_needs0 n0 Q n c w 42 ls (.int x :: st) M = ((¬ x = 0 → ok d mX11_needs0 n0 Q n c w 70 ls st M) ∧ (¬ (¬ x = 0) → ok d mX11_needs0 n0 Q n c w 45 ls st M)) := ok_ifc (pc := 42) (off := 28) (k := .ne) rfl 70 (by decide)
theorem sX11_needs0_45 {l0 l1 l2 l3 l4 l5 l6 : Option Value} {x : Int32} : ok d mX11_needs0 n0 Q n c w 45 (l0 :: l1 :: l2 :: l3 :: l4 :: l5 :: l6 :: some (.int x) :: ls) st M = ok d mX11_needs0 n0 Q n c w 47 (l0 :: l1 :: l2 :: l3 :: l4 :: l5 :: l6 :: some (.int x) :: ls) (.int x :: st) M := ok_r rfl rfl
theorem sX11_needs0_47 {l0 l1 l2 l3 : Option Value} {x : Int32} : ok d mX11_needs0 n0 Q n c w 47 (l0 :: l1 :: l2 :: l3 :: some (.int x) :: ls) st M = ok d mX11_needs0 n0 Q n c w 49 (l0 :: l1 :: l2 :: l3 :: some (.int x) :: ls) (.int x :: st) M := ok_r rfl rfl
theorem sX11_needs0_49 {x z : Int32} : ok d mX11_needs0 n0 Q n c w 49 ls (.int z :: .int x :: st) M = ((x = z → ok d mX11_needs0 n0 Q n c w 64 ls st M) ∧ (¬ (x = z) → ok d mX11_needs0 n0 Q n c w 52 ls st M)) := ok_ico (pc := 49) (off := 15) (k := .eq) rfl 64 (by decide)
theorem sX11_needs0_52 {l0 l1 l2 : Option Value} {x : Int32} : ok d mX11_needs0 n0 Q n c w 52 (l0 :: l1 :: l2 :: some (.int x) :: ls) st M = ok d mX11_needs0 n0 Q n c w 53 (l0 :: l1 :: l2 :: some (.int x) :: ls) (.int x :: st) M := ok_r rfl rfl
theorem sX11_needs0_53 : ok d mX11_needs0 n0 Q n c w 53 ls st M = ok d mX11_needs0 n0 Q n c w 54 ls (.int 3 :: st) M := ok_r rfl (by rw [← ic_3]; rfl)
theorem sX11_needs0_54 {x z : Int32} : ok d mX11_needs0 n0 Q n c w 54 ls (.int z :: .int x :: st) M = ((¬ x = z → ok d mX11_needs0 n0 Q n c w 68 ls st M) ∧ (¬ (¬ x = z) → ok d mX11_needs0 n0 Q n c w 57 ls st M)) := ok_ico (pc := 54) (off := 14) (k := .ne) rfl 68 (by decide)
theorem sX11_needs0_57 {l0 l1 l2 l3 l4 l5 l6 : Option Value} {x : Int32} : ok d mX11_needs0 n0 Q n c w 57 (l0 :: l1 :: l2 :: l3 :: l4 :: l5 :: l6 :: some (.int x) :: ls) st M = ok d mX11_needs0 n0 Q n c w 59 (l0 :: l1 :: l2 :: l3 :: l4 :: l5 :: l6 :: some (.int x) :: ls) (.int x :: st) M := ok_r rfl rfl
theorem sX11_needs0_59 {l0 l1 l2 l3 l4 : Option Value} {x : Int32} : ok d mX11_needs0 n0 Q n c w 59 (l0 :: l1 :: l2 :: l3 :: l4 :: some (.int x) :: ls) st M = ok d mX11_needs0 n0 Q n c w 61 (l0 :: l1 :: l2 :: l3 :: l4 :: some (.int x) :: ls) (.int x :: st) M := ok_r rfl rfl
theorem sX11_needs0_61 {x z : Int32} : ok d mX11_needs0 n0 Q n c w 61 ls (.int z :: .int x :: st) M = ((¬ x = z → ok d mX11_needs0 n0 Q n c w 68 ls st M) ∧ (¬ (¬ x = z) → ok d mX11_needs0 n0 Q n c w 64 ls st M)) := ok_ico (pc := 61) (off := 7) (k := .ne) rfl 68 (by decide)
theorem sX11_needs0_64 : ok d mX11_needs0 n0 Q n c w 64 ls st M = ok d mX11_needs0 n0 Q n c w 65 ls (.int 1 :: st) M := ok_r rfl (by rw [← ic_1]; rfl)
theorem sX11_needs0_65 : ok d mX11_needs0 n0 Q n c w 65 ls st M = ok d mX11_needs0 n0 Q n c w 69 ls st M := ok_got (pc := 65) (off := 4) rfl 69 (by decide)
theorem sX11_needs0_68 : ok d mX11_needs0 n0 Q n c w 68 ls st M = ok d mX11_needs0 n0 Q n c w 69 ls (.int 0 :: st) M := ok_r rfl (by rw [← ic_0]; rfl)
theorem sX11_needs0_69 {x : Int32} : ok d mX11_needs0 n Q n 0 0 69 ls [.int x] M = ((x = 0 ∨ x = 1) ∧ Q (some (.int x)) M) := ok_reZ rfl rfl ⟨rfl, rfl, rfl⟩
theorem sX11_needs0_70 {l0 l1 l2 : Option Value} {x : Int32} : ok d mX11_needs0 n0 Q n c w 70 (l0 :: l1 :: l2 :: some (.int x) :: ls) st M = ok d mX11_needs0 n0 Q n c w 71 (l0 :: l1 :: l2 :: some (.int x) :: ls) (.int x :: st) M := ok_r rfl rfl
theorem sX11_needs0_71 : ok d mX11_needs0 n0 Q n c w 71 ls st M = ok d mX11_needs0 n0 Q n c w 72 ls (.int 1 :: st) M := ok_r rfl (by rw [← ic_1]; rfl)
theorem sX11_needs0_72 {x z : Int32} : ok d mX11_needs0 n0 Q n c w 72 ls (.int z :: .int x :: st) M = ((¬ x = z → ok d mX11_needs0 n0 Q n c w 94 ls st M) ∧ (¬ (¬ x = z) → ok d mX11_needs0 n0 Q n c w 75 ls st M)) := ok_ico (pc := 72) (off := 22) (k := .ne) rfl 94 (by decide)
theorem sX11_needs0_75 {l0 l1 l2 l3 l4 l5 : Option Value} {x : Int32} : ok d mX11_needs0 n0 Q n c w 75 (l0 :: l1 :: l2 :: l3 :: l4 :: l5 :: some (.int x) :: ls) st M = ok d mX11_needs0 n0 Q n c w 77 (l0 :: l1 :: l2 :: l3 :: l4 :: l5 :: some (.int x) :: ls) (.int x :: st) M := ok_r rfl rfl
theorem sX11_needs0_77 : ok d mX11_needs0 n0 Q n c w 77 ls st M = ok d mX11_needs0 n0 Q n c w 78 ls (.int 1 :: st) M := ok_r rfl (by rw [← ic_1]; rfl)
theorem sX11_needs0_78 {x z : Int32} : ok d mX11_needs0 n0 Q n c w 78 ls (.int z :: .int x :: st) M = ((¬ x = z → ok d mX11_needs0 n0 Q n c w 92 ls st M) ∧ (¬ (¬ x = z) → ok d mX11_needs0 n0 Q n c w 81 ls st M)) := ok_ico (pc := 78) (off := 14) (k := .ne) rfl 92 (by decide)
theorem sX11_needs0_81 {l0 l1 l2 l3 l4 l5 l6 : Option Value} {x : Int32} : ok d mX11_needs0 n0 Q n c w 81 (l0 :: l1 :: l2 :: l3 :: l4 :: l5 :: l6 :: some (.int x) :: ls) st M = ok d mX11_needs0 n0 Q n c w 83 (l0 :: l1 :: l2 :: l3 :: l4 :: l5 :: l6 :: some (.int x) :: ls) (.int x :: st) M := ok_r rfl rfl
theorem sX11_needs0_83 {l0 l1 l2 l3 : Option Value} {x : Int32} : ok d mX11_needs0 n0 Q n c w 83 (l0 :: l1 :: l2 :: l3 :: some (.int x) :: ls) st M = ok d mX11_needs0 n0 Q n c w 85 (l0 :: l1 :: l2 :: l3 :: some (.int x) :: ls) (.int x :: st) M := ok_r rfl rfl
theorem sX11_needs0_85 {x z : Int32} : ok d mX11_needs0 n0 Q n c w 85 ls (.int z :: .int x :: st) M = ((¬ x = z → ok d mX11_needs0 n0 Q n c w 92 ls st M) ∧ (¬ (¬ x = z) → ok d mX11_needs0 n0 Q n c w 88 ls st M)) := ok_ico (pc := 85) (off := 7) (k := .ne) rfl 92 (by decide)
theorem sX11_needs0_88 : ok d mX11_needs0 n0 Q n c w 88 ls st M = ok d mX11_needs0 n0 Q n c w 89 ls (.int 1 :: st) M := ok_r rfl (by rw [← ic_1]; rfl)
theorem sX11_needs0_89 : ok d mX11_needs0 n0 Q n c w 89 ls st M = ok d mX11_needs0 n0 Q n c w 93 ls st M := ok_got (pc := 89) (off := 4) rfl 93 (by decide)
theorem sX11_needs0_92 : ok d mX11_needs0 n0 Q n c w 92 ls st M = ok d mX11_needs0 n0 Q n c w 93 ls (.int 0 :: st) M := ok_r rfl (by rw [← ic_0]; rfl)
theorem sX11_needs0_93 {x : Int32} : ok d mX11_needs0 n Q n 0 0 93 ls [.int x] M = ((x = 0 ∨ x = 1) ∧ Q (some (.int x)) M) := ok_reZ rfl rfl ⟨rfl, rfl, rfl⟩
theorem sX11_needs0_94 {l0 l1 l2 : Option Value} {x : Int32} : ok d mX11_needs0 n0 Q n c w 94 (l0 :: l1 :: l2 :: some (.int x) :: ls) st M = ok d mX11_needs0 n0 Q n c w 95 (l0 :: l1 :: l2 :: some (.int x) :: ls) (.int x :: st) M := ok_r rfl rfl
theorem sX11_needs0_95 : ok d mX11_needs0 n0 Q n c w 95 ls st M = ok d mX11_needs0 n0 Q n c w 96 ls (.int 2 :: st) M := ok_r rfl (by rw [← ic_2]; rfl)
theorem sX11_needs0_96 {x z : Int32} : ok d mX11_needs0 n0 Q n c w 96 ls (.int z :: .int x :: st) M = ((¬ x = z → ok d mX11_needs0 n0 Q n c w 118 ls st M) ∧ (¬ (¬ x = z) → ok d mX11_needs0 n0 Q n c w 99 ls st M)) := ok_ico (pc := 96) (off := 22) (k := .ne) rfl 118 (by decide)
theorem sX11_needs0_99 {l0 l1 l2 l3 l4 l5 : Option Value} {x : Int32} : ok d mX11_needs0 n0 Q n c w 99 (l0 :: l1 :: l2 :: l3 :: l4 :: l5 :: some (.int x) :: ls) st M = ok d mX11_needs0 n0 Q n c w 101 (l0 :: l1 :: l2 :: l3 :: l4 :: l5 :: some (.int x) :: ls) (.int x :: st) M := ok_r rfl rfl
theorem sX11_needs0_101 : ok d mX11_needs0 n0 Q n c w 101 ls st M = ok d mX11_needs0 n0 Q n c w 102 ls (.int 2 :: st) M := ok_r rfl (by rw [← ic_2]; rfl)
theorem sX11_needs0_102 {x z : Int32} : ok d mX11_needs0 n0 Q n c w 102 ls (.int z :: .int x :: st) M = ((¬ x = z → ok d mX11_needs0 n0 Q n c w 116 ls st M) ∧ (¬ (¬ x = z) → ok d mX11_needs0 n0 Q n c w 105 ls st M)) := ok_ico (pc := 102) (off := 14) (k := .ne) rfl 116 (by decide)
theorem sX11_needs0_105 {l0 l1 l2 l3 l4 l5 l6 : Option Value} {x : Int32} : ok d mX11_needs0 n0 Q n c w 105 (l0 :: l1 :: l2 :: l3 :: l4 :: l5 :: l6 :: some (.int x) :: ls) st M = ok d mX11_needs0 n0 Q n c w 107 (l0 :: l1 :: l2 :: l3 :: l4 :: l5 :: l6 :: some (.int x) :: ls) (.int x :: st) M := ok_r rfl rfl
theorem sX11_needs0_107 {l0 l1 l2 l3 : Option Value} {x : Int32} : ok d mX11_needs0 n0 Q n c w 107 (l0 :: l1 :: l2 :: l3 :: some (.int x) :: ls) st M = ok d mX11_needs0 n0 Q n c w 109 (l0 :: l1 :: l2 :: l3 :: some (.int x) :: ls) (.int x :: st) M := ok_r rfl rfl
theorem sX11_needs0_109 {x z : Int32} : ok d mX11_needs0 n0 Q n c w 109 ls (.int z :: .int x :: st) M = ((¬ x = z → ok d mX11_needs0 n0 Q n c w 116 ls st M) ∧ (¬ (¬ x = z) → ok d mX11_needs0 n0 Q n c w 112 ls st M)) := ok_ico (pc := 109) (off := 7) (k := .ne) rfl 116 (by decide)
theorem sX11_needs0_112 : ok d mX11_needs0 n0 Q n c w 112 ls st M = ok d mX11_needs0 n0 Q n c w 113 ls (.int 1 :: st) M := ok_r rfl (by rw [← ic_1]; rfl)
theorem sX11_needs0_113 : ok d mX11_needs0 n0 Q n c w 113 ls st M = ok d mX11_needs0 n0 Q n c w 117 ls st M := ok_got (pc := 113) (off := 4) rfl 117 (by decide)
theorem sX11_needs0_116 : ok d mX11_needs0 n0 Q n c w 116 ls st M = ok d mX11_needs0 n0 Q n c w 117 ls (.int 0 :: st) M := ok_r rfl (by rw [← ic_0]; rfl)
theorem sX11_needs0_117 {x : Int32} : ok d mX11_needs0 n Q n 0 0 117 ls [.int x] M = ((x = 0 ∨ x = 1) ∧ Q (some (.int x)) M) := ok_reZ rfl rfl ⟨rfl, rfl, rfl⟩
theorem sX11_needs0_118 {l0 l1 l2 : Option Value} {x : Int32} : ok d mX11_needs0 n0 Q n c w 118 (l0 :: l1 :: l2 :: some (.int x) :: ls) st M = ok d mX11_needs0 n0 Q n c w 119 (l0 :: l1 :: l2 :: some (.int x) :: ls) (.int x :: st) M := ok_r rfl rfl
theorem sX11_needs0_119 : ok d mX11_needs0 n0 Q n c w 119 ls st M = ok d mX11_needs0 n0 Q n c w 120 ls (.int 3 :: st) M := ok_r rfl (by rw [← ic_3]; rfl)
theorem sX11_needs0_120 {x z : Int32} : ok d mX11_needs0 n0 Q n c w 120 ls (.int z :: .int x :: st) M = ((¬ x = z → ok d mX11_needs0 n0 Q n c w 155 ls st M) ∧ (¬ (¬ x = z) → ok d mX11_needs0 n0 Q n c w 123 ls st M)) := ok_ico (pc := 120) (off := 35) (k := .ne) rfl 155 (by decide)
theorem sX11_needs0_123 {l0 l1 l2 l3 l4 l5 : Option Value} {x : Int32} : ok d mX11_needs0 n0 Q n c w 123 (l0 :: l1 :: l2 :: l3 :: l4 :: l5 :: some (.int x) :: ls) st M = ok d mX11_needs0 n0 Q n c w 125 (l0 :: l1 :: l2 :: l3 :: l4 :: l5 :: some (.int x) :: ls) (.int x :: st) M := ok_r rfl rfl
theorem sX11_needs0_125 : ok d mX11_needs0 n0 Q n c w 125 ls st M = ok d mX11_needs0 n0 Q n c w 126 ls (.int 1 :: st) M := ok_r rfl (by rw [← ic_1]; rfl)
theorem sX11_needs0_126 {x z : Int32} : ok d mX11_needs0 n0 Q n c w 126 ls (.int z :: .int x :: st) M = ((¬ x = z → ok d mX11_needs0 n0 Q n c w 136 ls st M) ∧ (¬ (¬ x = z) → ok d mX11_needs0 n0 Q n c w 129 ls st M)) := ok_ico (pc := 126) (off := 10) (k := .ne) rfl 136 (by decide)
theorem sX11_needs0_129 {l0 l1 l2 l3 l4 l5 l6 : Option Value} {x : Int32} : ok d mX11_needs0 n0 Q n c w 129 (l0 :: l1 :: l2 :: l3 :: l4 :: l5 :: l6 :: some (.int x) :: ls) st M = ok d mX11_needs0 n0 Q n c w 131 (l0 :: l1 :: l2 :: l3 :: l4 :: l5 :: l6 :: some (.int x) :: ls) (.int x :: st) M := ok_r rfl rfl
theorem sX11_needs0_131 {l0 l1 l2 l3 : Option Value} {x : Int32} : ok d mX11_needs0 n0 Q n c w 131 (l0 :: l1 :: l2 :: l3 :: some (.int x) :: ls) st M = ok d mX11_needs0 n0 Q n c w 133 (l0 :: l1 :: l2 :: l3 :: some (.int x) :: ls) (.int x :: st) M := ok_r rfl rfl
theorem sX11_needs0_133 {x z : Int32} : ok d mX11_needs0 n0 Q n c w 133 ls (.int z :: .int x :: st) M = ((x = z → ok d mX11_needs0 n0 Q n c w 149 ls st M) ∧ (¬ (x = z) → ok d mX11_needs0 n0 Q n c w 136 ls st M)) := ok_ico (pc := 133) (off := 16) (k := .eq) rfl 149 (by decide)
theorem sX11_needs0_136 {l0 l1 l2 l3 l4 l5 : Option Value} {x : Int32} : ok d mX11_needs0 n0 Q n c w 136 (l0 :: l1 :: l2 :: l3 :: l4 :: l5 :: some (.int x) :: ls) st M = ok d mX11_needs0 n0 Q n c w 138 (l0 :: l1 :: l2 :: l3 :: l4 :: l5 :: some (.int x) :: ls) (.int x :: st) M := ok_r rfl rfl
theorem sX11_needs0_138 : ok d mX11_needs0 n0 Q n c w 138 ls st M = ok d mX11_needs0 n0 Q n c w 139 ls (.int 2 :: st) M := ok_r rfl (by rw [← ic_2]; rfl)
theorem sX11_needs0_139 {x z : Int32} : ok d mX11_needs0 n0 Q n c w 139 ls (.int z :: .int x :: st) M = ((¬ x = z → ok d mX11_needs0 n0 Q n c w 153 ls st M) ∧ (¬ (¬ x = z) → ok d mX11_needs0 n0 Q n c w 142 ls st M)) := ok_ico (pc := 139) (off := 14) (k := .ne) rfl 153 (by decide)
theorem sX11_needs0_142 {l0 l1 l2 l3 l4 l5 l6 : Option Value} {x : Int32} : ok d mX11_needs0 n0 Q n c w 142 (l0 :: l1 :: l2 :: l3 :: l4 :: l5 :: l6 :: some (.int x) :: ls) st M = ok d mX11_needs0 n0 Q n c w 144 (l0 :: l1 :: l2 :: l3 :: l4 :: l5 :: l6 :: some (.int x) :: ls) (.int x :: st) M := ok_r rfl rfl
theorem sX11_needs0_144 {l0 l1 l2 l3 l4 : Option Value} {x : Int32} : ok d mX11_needs0 n0 Q n c w 144 (l0 :: l1 :: l2 :: l3 :: l4 :: some (.int x) :: ls) st M = ok d mX11_needs0 n0 Q n c w 146 (l0 :: l1 :: l2 :: l3 :: l4 :: some (.int x) :: ls) (.int x :: st) M := ok_r rfl rfl
theorem sX11_needs0_146 {x z : Int32} : ok d mX11_needs0 n0 Q n c w 146 ls (.int z :: .int x :: st) M = ((¬ x = z → ok d mX11_needs0 n0 Q n c w 153 ls st M) ∧ (¬ (¬ x = z) → ok d mX11_needs0 n0 Q n c w 149 ls st M)) := ok_ico (pc := 146) (off := 7) (k := .ne) rfl 153 (by decide)
theorem sX11_needs0_149 : ok d mX11_needs0 n0 Q n c w 149 ls st M = ok d mX11_needs0 n0 Q n c w 150 ls (.int 1 :: st) M := ok_r rfl (by rw [← ic_1]; rfl)
theorem sX11_needs0_150 : ok d mX11_needs0 n0 Q n c w 150 ls st M = ok d mX11_needs0 n0 Q n c w 154 ls st M := ok_got (pc := 150) (off := 4) rfl 154 (by decide)
theorem sX11_needs0_153 : ok d mX11_needs0 n0 Q n c w 153 ls st M = ok d mX11_needs0 n0 Q n c w 154 ls (.int 0 :: st) M := ok_r rfl (by rw [← ic_0]; rfl)
theorem sX11_needs0_154 {x : Int32} : ok d mX11_needs0 n Q n 0 0 154 ls [.int x] M = ((x = 0 ∨ x = 1) ∧ Q (some (.int x)) M) := ok_reZ rfl rfl ⟨rfl, rfl, rfl⟩
theorem sX11_needs0_155 {l0 l1 l2 : Option Value} {x : Int32} : ok d mX11_needs0 n0 Q n c w 155 (l0 :: l1 :: l2 :: some (.int x) :: ls) st M = ok d mX11_needs0 n0 Q n c w 156 (l0 :: l1 :: l2 :: some (.int x) :: ls) (.int x :: st) M := ok_r rfl rfl
theorem sX11_needs0_156 : ok d mX11_needs0 n0 Q n c w 156 ls st M = ok d mX11_needs0 n0 Q n c w 157 ls (.int 4 :: st) M := ok_r rfl (by rw [← ic_4]; rfl)
theorem sX11_needs0_157 {x z : Int32} : ok d mX11_needs0 n0 Q n c w 157 ls (.int z :: .int x :: st) M = ((¬ x = z → ok d mX11_needs0 n0 Q n c w 177 ls st M) ∧ (¬ (¬ x = z) → ok d mX11_needs0 n0 Q n c w 160 ls st M)) := ok_ico (pc := 157) (off := 20) (k := .ne) rfl 177 (by decide)
theorem sX11_needs0_160 {l0 l1 l2 l3 l4 l5 l6 : Option Value} {x : Int32} : ok d mX11_needs0 n0 Q n c w 160 (l0 :: l1 :: l2 :: l3 :: l4 :: l5 :: l6 :: some (.int x) :: ls) st M = ok d mX11_needs0 n0 Q n c w 162 (l0 :: l1 :: l2 :: l3 :: l4 :: l5 :: l6 :: some (.int x) :: ls) (.int x :: st) M := ok_r rfl rfl
theorem sX11_needs0_162 {l0 l1 l2 l3 : Option Value} {x : Int32} : ok d mX11_needs0 n0 Q n c w 162 (l0 :: l1 :: l2 :: l3 :: some (.int x) :: ls) st M = ok d mX11_needs0 n0 Q n c w 164 (l0 :: l1 :: l2 :: l3 :: some (.int x) :: ls) (.int x :: st) M := ok_r rfl rfl
theorem sX11_needs0_164 {x z : Int32} : ok d mX11_needs0 n0 Q n c w 164 ls (.int z :: .int x :: st) M = ((¬ x = z → ok d mX11_needs0 n0 Q n c w 177 ls st M) ∧ (¬ (¬ x = z) → ok d mX11_needs0 n0 Q n c w 167 ls st M)) := ok_ico (pc := 164) (off := 13) (k := .ne) rfl 177 (by decide)
theorem sX11_needs0_167 {l0 l1 l2 l3 l4 l5 : Option Value} {x : Int32} : ok d mX11_needs0 n0 Q n c w 167 (l0 :: l1 :: l2 :: l3 :: l4 :: l5 :: some (.int x) :: ls) st M = ok d mX11_needs0 n0 Q n c w 169 (l0 :: l1 :: l2 :: l3 :: l4 :: l5 :: some (.int x) :: ls) (.int x :: st) M := ok_r rfl rfl
theorem sX11_needs0_169 : ok d mX11_needs0 n0 Q n c w 169 ls st M = ok d mX11_needs0 n0 Q n c w 170 ls (.int 4 :: st) M := ok_r rfl (by rw [← ic_4]; rfl)
theorem sX11_needs0_170 {x z : Int32} : ok d mX11_needs0 n0 Q n c w 170 ls (.int z :: .int x :: st) M = ((z ≤ x → ok d mX11_needs0 n0 Q n c w 177 ls st M) ∧ (¬ (z ≤ x) → ok d mX11_needs0 n0 Q n c w 173 ls st M)) := ok_ico (pc := 170) (off := 7) (k := .ge) rfl 177 (by decide)
theorem sX11_needs0_173 : ok d mX11_needs0 n0 Q n c w 173 ls st M = ok d mX11_needs0 n0 Q n c w 174 ls (.int 1 :: st) M := ok_r rfl (by rw [← ic_1]; rfl)
theorem sX11_needs0_174 : ok d mX11_needs0 n0 Q n c w 174 ls st M = ok d mX11_needs0 n0 Q n c w 178 ls st M := ok_got (pc := 174) (off := 4) rfl 178 (by decide)
theorem sX11_needs0_177 : ok d mX11_needs0 n0 Q n c w 177 ls st M = ok d mX11_needs0 n0 Q n c w 178 ls (.int 0 :: st) M := ok_r rfl (by rw [← ic_0]; rfl)
theorem sX11_needs0_178 {x : Int32} : ok d mX11_needs0 n Q n 0 0 178 ls [.int x] M = ((x = 0 ∨ x = 1) ∧ Q (some (.int x)) M) := ok_reZ rfl rfl ⟨rfl, rfl, rfl⟩
theorem eX11_needs0 {a0 : Nat} {a1 : Int32} {a2 : Int32} {n : Nat} {M : am_M} {Q : am_Q} : am_big (d + 1) mX11_needs0 [.ref a0, .int a1, .int a2] n M Q = ok d mX11_needs0 n Q n 0 0 0 [some (.ref a0), some (.int a1), some (.int a2), none, none, none, none, none] [] M := rfl
theorem sX11_laysNeeds_0 {x : Nat} : ok d mX11_laysNeeds n0 Q n c w 0 (some (.ref x) :: ls) st M = ok d mX11_laysNeeds n0 Q n c w 1 (some (.ref x) :: ls) (.ref x :: st) M := ok_r rfl rfl
theorem sX11_laysNeeds_1 {a : Nat} : ok d mX11_laysNeeds n0 Q n c w 1 ls (.ref a :: st) M = (am_ob n a 11 ∧ ok d mX11_laysNeeds n0 Q n c w 4 ls (am_rv (gR M a 27) :: st) M) := ok_get (q := (11, 27, 2, true, 1222)) rfl rfl rfl rfl
theorem sX11_laysNeeds_4 : ok d mX11_laysNeeds n0 Q n c w 4 ls st M = ok d mX11_laysNeeds n0 Q n c w 6 ls (.int 36 :: st) M := ok_r rfl (by rw [← bc_36]; rfl)
theorem sX11_laysNeeds_6 {a : Nat} {i : Int32} : ok d mX11_laysNeeds n0 Q n c w 6 ls (.int i :: .ref a :: st) M = (am_in n M a 1 i ∧ ok d mX11_laysNeeds n0 Q n c w 7 ls (.int (gI M a i.toNatClampNeg) :: st) M) := ok_r rfl rfl
theorem sX11_laysNeeds_7 {l0 l1 : Option Value} {x : Int32} : ok d mX11_laysNeeds n0 Q n c w 7 (l0 :: l1 :: ls) (.int x :: st) M = ok d mX11_laysNeeds n0 Q n c w 8 (am_kl l0 :: some (.int x) :: ls) st M := ok_ist (k := 1) rfl (Or.inr ⟨_, rfl, rfl⟩) (by decide) rfl rfl
theorem sX11_laysNeeds_8 : ok d mX11_laysNeeds n0 Q n c w 8 ls st M = ok d mX11_laysNeeds n0 Q n c w 9 ls (.int 0 :: st) M := ok_r rfl (by rw [← ic_0]; rfl)
theorem sX11_laysNeeds_9 {l0 l1 l2 : Option Value} {x : Int32} : ok d mX11_laysNeeds n0 Q n c w 9 (l0 :: l1 :: l2 :: ls) (.int x :: st) M = ok d mX11_laysNeeds n0 Q n c w 10 (l0 :: am_kl l1 :: some (.int x) :: ls) st M := ok_ist (k := 2) rfl (Or.inr ⟨_, rfl, rfl⟩) (by decide) rfl rfl
theorem sX11_laysNeeds_10 {l0 l1 : Option Value} {x : Int32} : ok d mX11_laysNeeds n0 Q n c w 10 (l0 :: l1 :: some (.int x) :: ls) st M = ok d mX11_laysNeeds n0 Q n c w 11 (l0 :: l1 :: some (.int x) :: ls) (.int x :: st) M := ok_r rfl rfl
theorem sX11_laysNeeds_11 {l0 : Option Value} {x : Int32} : ok d mX11_laysNeeds n0 Q n c w 11 (l0 :: some (.int x) :: ls) st M = ok d mX11_laysNeeds n0 Q n c w 12 (l0 :: some (.int x) :: ls) (.int x :: st) M := ok_r rfl rfl
theorem sX11_laysNeeds_12 {x z : Int32} : ok d mX11_laysNeeds n0 Q n c w 12 ls (.int z :: .int x :: st) M = ((z ≤ x → ok d mX11_laysNeeds n0 Q n c w 101 ls st M) ∧ (¬ (z ≤ x) → ok d mX11_laysNeeds n0 Q n c w 15 ls st M)) := ok_ico (pc := 12) (off := 89) (k := .ge) rfl 101 (by decide)
theorem sX11_laysNeeds_15 {x : Nat} : ok d mX11_laysNeeds n0 Q n c w 15 (some (.ref x) :: ls) st M = ok d mX11_laysNeeds n0 Q n c w 16 (some (.ref x) :: ls) (.ref x :: st) M := ok_r rfl rfl
theorem sX11_laysNeeds_16 {a : Nat} : ok d mX11_laysNeeds n0 Q n c w 16 ls (.ref a :: st) M = (am_ob n a 11 ∧ ok d mX11_laysNeeds n0 Q n c w 19 ls (am_rv (gR M a 37) :: st) M) := ok_get (q := (11, 37, 2, true, 1232)) rfl rfl rfl rfl
theorem sX11_laysNeeds_19 {l0 l1 : Option Value} {x : Int32} : ok d mX11_laysNeeds n0 Q n c w 19 (l0 :: l1 :: some (.int x) :: ls) st M = ok d mX11_laysNeeds n0 Q n c w 20 (l0 :: l1 :: some (.int x) :: ls) (.int x :: st) M := ok_r rfl rfl
theorem sX11_laysNeeds_20 : ok d mX11_laysNeeds n0 Q n c w 20 ls st M = ok d mX11_laysNeeds n0 Q n c w 21 ls (.int 0 :: st) M := ok_r rfl (by rw [← ic_0]; rfl)
theorem sX11_laysNeeds_21 {a : Nat} {i x : Int32} : ok d mX11_laysNeeds n0 Q n c w 21 ls (.int x :: .int i :: .ref a :: st) M = (am_iw n a 1 i ∧ ok d mX11_laysNeeds n0 Q n c w 22 ls st (sI M a i.toNatClampNeg x)) := ok_r rfl rfl
theorem sX11_laysNeeds_22 {x : Nat} : ok d mX11_laysNeeds n0 Q n c w 22 (some (.ref x) :: ls) st M = ok d mX11_laysNeeds n0 Q n c w 23 (some (.ref x) :: ls) (.ref x :: st) M := ok_r rfl rfl
theorem sX11_laysNeeds_23 {a : Nat} : ok d mX11_laysNeeds n0 Q n c w 23 ls (.ref a :: st) M = (am_ob n a 11 ∧ ok d mX11_laysNeeds n0 Q n c w 26 ls (am_rv (gR M a 38) :: st) M) := ok_get (q := (11, 38, 2, true, 1233)) rfl rfl rfl rfl
theorem sX11_laysNeeds_26 {l0 l1 : Option Value} {x : Int32} : ok d mX11_laysNeeds n0 Q n c w 26 (l0 :: l1 :: some (.int x) :: ls) st M = ok d mX11_laysNeeds n0 Q n c w 27 (l0 :: l1 :: some (.int x) :: ls) (.int x :: st) M := ok_r rfl rfl
theorem sX11_laysNeeds_27 : ok d mX11_laysNeeds n0 Q n c w 27 ls st M = ok d mX11_laysNeeds n0 Q n c w 28 ls (.int 0 :: st) M := ok_r rfl (by rw [← ic_0]; rfl)
theorem sX11_laysNeeds_28 {a : Nat} {i x : Int32} : ok d mX11_laysNeeds n0 Q n c w 28 ls (.int x :: .int i :: .ref a :: st) M = (am_iw n a 1 i ∧ ok d mX11_laysNeeds n0 Q n c w 29 ls st (sI M a i.toNatClampNeg x)) := ok_r rfl rfl
theorem sX11_laysNeeds_29 {x : Nat} : ok d mX11_laysNeeds n0 Q n c w 29 (some (.ref x) :: ls) st M = ok d mX11_laysNeeds n0 Q n c w 30 (some (.ref x) :: ls) (.ref x :: st) M := ok_r rfl rfl
theorem sX11_laysNeeds_30 {a : Nat} : ok d mX11_laysNeeds n0 Q n c w 30 ls (.ref a :: st) M = (am_ob n a 11 ∧ ok d mX11_laysNeeds n0 Q n c w 33 ls (am_rv (gR M a 39) :: st) M) := ok_get (q := (11, 39, 2, true, 1234)) rfl rfl rfl rfl
theorem sX11_laysNeeds_33 {l0 l1 : Option Value} {x : Int32} : ok d mX11_laysNeeds n0 Q n c w 33 (l0 :: l1 :: some (.int x) :: ls) st M = ok d mX11_laysNeeds n0 Q n c w 34 (l0 :: l1 :: some (.int x) :: ls) (.int x :: st) M := ok_r rfl rfl
theorem sX11_laysNeeds_34 : ok d mX11_laysNeeds n0 Q n c w 34 ls st M = ok d mX11_laysNeeds n0 Q n c w 35 ls (.int 0 :: st) M := ok_r rfl (by rw [← ic_0]; rfl)
theorem sX11_laysNeeds_35 {a : Nat} {i x : Int32} : ok d mX11_laysNeeds n0 Q n c w 35 ls (.int x :: .int i :: .ref a :: st) M = (am_iw n a 1 i ∧ ok d mX11_laysNeeds n0 Q n c w 36 ls st (sI M a i.toNatClampNeg x)) := ok_r rfl rfl
theorem sX11_laysNeeds_36 : ok d mX11_laysNeeds n0 Q n c w 36 ls st M = ok d mX11_laysNeeds n0 Q n c w 37 ls (.int 0 :: st) M := ok_r rfl (by rw [← ic_0]; rfl)
theorem sX11_laysNeeds_37 {l0 l1 l2 l3 : Option Value} {x : Int32} : ok d mX11_laysNeeds n0 Q n c w 37 (l0 :: l1 :: l2 :: l3 :: ls) (.int x :: st) M = ok d mX11_laysNeeds n0 Q n c w 38 (l0 :: l1 :: am_kl l2 :: some (.int x) :: ls) st M := ok_ist (k := 3) rfl (Or.inr ⟨_, rfl, rfl⟩) (by decide) rfl rfl
theorem sX11_laysNeeds_38 {l0 l1 l2 : Option Value} {x : Int32} : ok d mX11_laysNeeds n0 Q n c w 38 (l0 :: l1 :: l2 :: some (.int x) :: ls) st M = ok d mX11_laysNeeds n0 Q n c w 39 (l0 :: l1 :: l2 :: some (.int x) :: ls) (.int x :: st) M := ok_r rfl rfl
theorem sX11_laysNeeds_39 {l0 l1 : Option Value} {x : Int32} : ok d mX11_laysNeeds n0 Q n c w 39 (l0 :: l1 :: some (.int x) :: ls) st M = ok d mX11_laysNeeds n0 Q n c w 40 (l0 :: l1 :: some (.int x) :: ls) (.int x :: st) M := ok_r rfl rfl
theorem sX11_laysNeeds_40 {x z : Int32} : ok d mX11_laysNeeds n0 Q n c w 40 ls (.int z :: .int x :: st) M = ((z ≤ x → ok d mX11_laysNeeds n0 Q n c w 95 ls st M) ∧ (¬ (z ≤ x) → ok d mX11_laysNeeds n0 Q n c w 43 ls st M)) := ok_ico (pc := 40) (off := 55) (k := .ge) rfl 95 (by decide)
theorem sX11_laysNeeds_43 {x : Nat} : ok d mX11_laysNeeds n0 Q n c w 43 (some (.ref x) :: ls) st M = ok d mX11_laysNeeds n0 Q n c w 44 (some (.ref x) :: ls) (.ref x :: st) M := ok_r rfl rfl
theorem sX11_laysNeeds_44 {a : Nat} : ok d mX11_laysNeeds n0 Q n c w 44 ls (.ref a :: st) M = (am_ob n a 11 ∧ ok d mX11_laysNeeds n0 Q n c w 47 ls (am_rv (gR M a 27) :: st) M) := ok_get (q := (11, 27, 2, true, 1222)) rfl rfl rfl rfl
theorem sX11_laysNeeds_47 {l0 l1 : Option Value} {x : Int32} : ok d mX11_laysNeeds n0 Q n c w 47 (l0 :: l1 :: some (.int x) :: ls) st M = ok d mX11_laysNeeds n0 Q n c w 48 (l0 :: l1 :: some (.int x) :: ls) (.int x :: st) M := ok_r rfl rfl
theorem sX11_laysNeeds_48 {l0 l1 l2 : Option Value} {x : Int32} : ok d mX11_laysNeeds n0 Q n c w 48 (l0 :: l1 :: l2 :: some (.int x) :: ls) st M = ok d mX11_laysNeeds n0 Q n c w 49 (l0 :: l1 :: l2 :: some (.int x) :: ls) (.int x :: st) M := ok_r rfl rfl
theorem sX11_laysNeeds_49 {a0 : Nat} {a1 : Int32} {a2 : Int32} : ok d mX11_laysNeeds n0 Q n 0 0 49 ls [.int a2, .int a1, .ref a0] M = am_big d mX11_needs0 [.ref a0, .int a1, .int a2] n M (kI fun x M' => ok d mX11_laysNeeds n0 Q n 0 0 52 ls (.int x :: []) M') := ok_sta (y := mX11_laysNeeds) (y' := mX11_needs0) (pc := 49) (k := 344) (ps := [1655, 1656, 110, 1657]) (c := 0) (w := 0) (st := [.int a2, .int a1, .ref a0]) (as := [.ref a0, .int a1, .int a2]) (rest := []) (kd := 1) rfl rfl (by decide) ⟨Nat.le_of_ble_eq_true rfl, Nat.le_of_ble_eq_true rfl, Nat.le_of_ble_eq_true rfl, Nat.le_of_ble_eq_true rfl, Nat.le_of_ble_eq_true rfl⟩ rfl rfl (am_contI (Or.inr rfl) rfl)
theorem sX11_laysNeeds_52 {x : Int32} : ok d mX11_laysNeeds n0 Q n c w 52 ls (.int x :: st) M = ((¬ x = 0 → ok d mX11_laysNeeds n0 Q n c w 58 ls st M) ∧ (¬ (¬ x = 0) → ok d mX11_laysNeeds n0 Q n c w 55 ls st M)) := ok_ifc (pc := 52) (off := 6) (k := .ne) rfl 58 (by decide)
theorem sX11_laysNeeds_55 : ok d mX11_laysNeeds n0 Q n c w 55 ls st M = ok d mX11_laysNeeds n0 Q n c w 89 ls st M := ok_got (pc := 55) (off := 34) rfl 89 (by decide)
theorem sX11_laysNeeds_58 {x : Nat} : ok d mX11_laysNeeds n0 Q n c w 58 (some (.ref x) :: ls) st M = ok d mX11_laysNeeds n0 Q n c w 59 (some (.ref x) :: ls) (.ref x :: st) M := ok_r rfl rfl
theorem sX11_laysNeeds_59 {a : Nat} : ok d mX11_laysNeeds n0 Q n c w 59 ls (.ref a :: st) M = (am_ob n a 11 ∧ ok d mX11_laysNeeds n0 Q n c w 62 ls (am_rv (gR M a 37) :: st) M) := ok_get (q := (11, 37, 2, true, 1232)) rfl rfl rfl rfl
theorem sX11_laysNeeds_62 {l0 l1 : Option Value} {x : Int32} : ok d mX11_laysNeeds n0 Q n c w 62 (l0 :: l1 :: some (.int x) :: ls) st M = ok d mX11_laysNeeds n0 Q n c w 63 (l0 :: l1 :: some (.int x) :: ls) (.int x :: st) M := ok_r rfl rfl
theorem sX11_laysNeeds_63 {x : Nat} {z : Int32} : ok d mX11_laysNeeds n0 Q n c w 63 ls (.int z :: .ref x :: st) M = ok d mX11_laysNeeds n0 Q n c w 64 ls (.int z :: .ref x :: .int z :: .ref x :: st) M := ok_r rfl rfl
theorem sX11_laysNeeds_64 {a : Nat} {i : Int32} : ok d mX11_laysNeeds n0 Q n c w 64 ls (.int i :: .ref a :: st) M = (am_in n M a 1 i ∧ ok d mX11_laysNeeds n0 Q n c w 65 ls (.int (gI M a i.toNatClampNeg) :: st) M) := ok_r rfl rfl
theorem sX11_laysNeeds_65 : ok d mX11_laysNeeds n0 Q n c w 65 ls st M = ok d mX11_laysNeeds n0 Q n c w 66 ls (.int 1 :: st) M := ok_r rfl (by rw [← ic_1]; rfl)
theorem sX11_laysNeeds_66 {l0 l1 l2 : Option Value} {x : Int32} : ok d mX11_laysNeeds n0 Q n c w 66 (l0 :: l1 :: l2 :: some (.int x) :: ls) st M = ok d mX11_laysNeeds n0 Q n c w 67 (l0 :: l1 :: l2 :: some (.int x) :: ls) (.int x :: st) M := ok_r rfl rfl
theorem sX11_laysNeeds_67 {x z : Int32} : ok d mX11_laysNeeds n0 Q n c w 67 ls (.int z :: .int x :: st) M = ok d mX11_laysNeeds n0 Q n c w 68 ls (.int (x <<< (z &&& 31)) :: st) M := ok_r rfl rfl
theorem sX11_laysNeeds_68 {x z : Int32} : ok d mX11_laysNeeds n0 Q n c w 68 ls (.int z :: .int x :: st) M = ok d mX11_laysNeeds n0 Q n c w 69 ls (.int (x ||| z) :: st) M := ok_r rfl rfl
theorem sX11_laysNeeds_69 {a : Nat} {i x : Int32} : ok d mX11_laysNeeds n0 Q n c w 69 ls (.int x :: .int i :: .ref a :: st) M = (am_iw n a 1 i ∧ ok d mX11_laysNeeds n0 Q n c w 70 ls st (sI M a i.toNatClampNeg x)) := ok_r rfl rfl
theorem sX11_laysNeeds_70 {x : Nat} : ok d mX11_laysNeeds n0 Q n c w 70 (some (.ref x) :: ls) st M = ok d mX11_laysNeeds n0 Q n c w 71 (some (.ref x) :: ls) (.ref x :: st) M := ok_r rfl rfl
theorem sX11_laysNeeds_71 {a : Nat} : ok d mX11_laysNeeds n0 Q n c w 71 ls (.ref a :: st) M = (am_ob n a 11 ∧ ok d mX11_laysNeeds n0 Q n c w 74 ls (am_rv (gR M a 38) :: st) M) := ok_get (q := (11, 38, 2, true, 1233)) rfl rfl rfl rfl
theorem sX11_laysNeeds_74 {l0 l1 : Option Value} {x : Int32} : ok d mX11_laysNeeds n0 Q n c w 74 (l0 :: l1 :: some (.int x) :: ls) st M = ok d mX11_laysNeeds n0 Q n c w 75 (l0 :: l1 :: some (.int x) :: ls) (.int x :: st) M := ok_r rfl rfl
theorem sX11_laysNeeds_75 {x : Nat} {z : Int32} : ok d mX11_laysNeeds n0 Q n c w 75 ls (.int z :: .ref x :: st) M = ok d mX11_laysNeeds n0 Q n c w 76 ls (.int z :: .ref x :: .int z :: .ref x :: st) M := ok_r rfl rfl
theorem sX11_laysNeeds_76 {a : Nat} {i : Int32} : ok d mX11_laysNeeds n0 Q n c w 76 ls (.int i :: .ref a :: st) M = (am_in n M a 1 i ∧ ok d mX11_laysNeeds n0 Q n c w 77 ls (.int (gI M a i.toNatClampNeg) :: st) M) := ok_r rfl rfl
theorem sX11_laysNeeds_77 : ok d mX11_laysNeeds n0 Q n c w 77 ls st M = ok d mX11_laysNeeds n0 Q n c w 78 ls (.int 1 :: st) M := ok_r rfl (by rw [← ic_1]; rfl)
theorem sX11_laysNeeds_78 {l0 l1 l2 : Option Value} {x : Int32} : ok d mX11_laysNeeds n0 Q n c w 78 (l0 :: l1 :: l2 :: some (.int x) :: ls) st M = ok d mX11_laysNeeds n0 Q n c w 79 (l0 :: l1 :: l2 :: some (.int x) :: ls) (.int x :: st) M := ok_r rfl rfl
theorem sX11_laysNeeds_79 {x z : Int32} : ok d mX11_laysNeeds n0 Q n c w 79 ls (.int z :: .int x :: st) M = ok d mX11_laysNeeds n0 Q n c w 80 ls (.int (x <<< (z &&& 31)) :: st) M := ok_r rfl rfl
theorem sX11_laysNeeds_80 {x : Nat} : ok d mX11_laysNeeds n0 Q n c w 80 (some (.ref x) :: ls) st M = ok d mX11_laysNeeds n0 Q n c w 81 (some (.ref x) :: ls) (.ref x :: st) M := ok_r rfl rfl
theorem sX11_laysNeeds_81 {a : Nat} : ok d mX11_laysNeeds n0 Q n c w 81 ls (.ref a :: st) M = (am_ob n a 11 ∧ ok d mX11_laysNeeds n0 Q n c w 84 ls (am_rv (gR M a 38) :: st) M) := ok_get (q := (11, 38, 2, true, 1233)) rfl rfl rfl rfl
theorem sX11_laysNeeds_84 {l0 l1 l2 : Option Value} {x : Int32} : ok d mX11_laysNeeds n0 Q n c w 84 (l0 :: l1 :: l2 :: some (.int x) :: ls) st M = ok d mX11_laysNeeds n0 Q n c w 85 (l0 :: l1 :: l2 :: some (.int x) :: ls) (.int x :: st) M := ok_r rfl rfl
theorem sX11_laysNeeds_85 {a : Nat} {i : Int32} : ok d mX11_laysNeeds n0 Q n c w 85 ls (.int i :: .ref a :: st) M = (am_in n M a 1 i ∧ ok d mX11_laysNeeds n0 Q n c w 86 ls (.int (gI M a i.toNatClampNeg) :: st) M) := ok_r rfl rfl
theorem sX11_laysNeeds_86 {x z : Int32} : ok d mX11_laysNeeds n0 Q n c w 86 ls (.int z :: .int x :: st) M = ok d mX11_laysNeeds n0 Q n c w 87 ls (.int (x ||| z) :: st) M := ok_r rfl rfl
theorem sX11_laysNeeds_87 {x z : Int32} : ok d mX11_laysNeeds n0 Q n c w 87 ls (.int z :: .int x :: st) M = ok d mX11_laysNeeds n0 Q n c w 88 ls (.int (x ||| z) :: st) M := ok_r rfl rfl
theorem sX11_laysNeeds_88 {a : Nat} {i x : Int32} : ok d mX11_laysNeeds n0 Q n c w 88 ls (.int x :: .int i :: .ref a :: st) M = (am_iw n a 1 i ∧ ok d mX11_laysNeeds n0 Q n c w 89 ls st (sI M a i.toNatClampNeg x)) := ok_r rfl rfl
theorem sX11_laysNeeds_89 {l0 l1 l2 : Option Value} {x : Int32} : ok d mX11_laysNeeds n0 Q n c w 89 (l0 :: l1 :: l2 :: some (.int x) :: ls) st M = ok d mX11_laysNeeds n0 Q n c w 92 (l0 :: l1 :: am_kl l2 :: some (.int (x + 1)) :: ls) st M := ok_inc (k := 3) rfl rfl ic_1 (by decide) rfl rfl
theorem sX11_laysNeeds_92 : ok d mX11_laysNeeds n0 Q n c w 92 ls st M = ok d mX11_laysNeeds n0 Q n c w 38 ls st M := ok_got (pc := 92) (off := (-54)) rfl 38 (by decide)
theorem sX11_laysNeeds_95 {l0 l1 : Option Value} {x : Int32} : ok d mX11_laysNeeds n0 Q n c w 95 (l0 :: l1 :: some (.int x) :: ls) st M = ok d mX11_laysNeeds n0 Q n c w 98 (l0 :: am_kl l1 :: some (.int (x + 1)) :: ls) st M := ok_inc (k := 2) rfl rfl ic_1 (by decide) rfl rfl
theorem sX11_laysNeeds_98 : ok d mX11_laysNeeds n0 Q n c w 98 ls st M = ok d mX11_laysNeeds n0 Q n c w 10 ls st M := ok_got (pc := 98) (off := (-88)) rfl 10 (by decide)
theorem sX11_laysNeeds_101 : ok d mX11_laysNeeds n0 Q n c w 101 ls st M = ok d mX11_laysNeeds n0 Q n c w 102 ls (.int 0 :: st) M := ok_r rfl (by rw [← ic_0]; rfl)
theorem sX11_laysNeeds_102 {l0 l1 l2 : Option Value} {x : Int32} : ok d mX11_laysNeeds n0 Q n c w 102 (l0 :: l1 :: l2 :: ls) (.int x :: st) M = ok d mX11_laysNeeds n0 Q n c w 103 (l0 :: am_kl l1 :: some (.int x) :: ls) st M := ok_ist (k := 2) rfl (Or.inr ⟨_, rfl, rfl⟩) (by decide) rfl rfl
theorem sX11_laysNeeds_103 {l0 l1 : Option Value} {x : Int32} : ok d mX11_laysNeeds n0 Q n c w 103 (l0 :: l1 :: some (.int x) :: ls) st M = ok d mX11_laysNeeds n0 Q n c w 104 (l0 :: l1 :: some (.int x) :: ls) (.int x :: st) M := ok_r rfl rfl
theorem sX11_laysNeeds_104 {l0 : Option Value} {x : Int32} : ok d mX11_laysNeeds n0 Q n c w 104 (l0 :: some (.int x) :: ls) st M = ok d mX11_laysNeeds n0 Q n c w 105 (l0 :: some (.int x) :: ls) (.int x :: st) M := ok_r rfl rfl
theorem sX11_laysNeeds_105 {x z : Int32} : ok d mX11_laysNeeds n0 Q n c w 105 ls (.int z :: .int x :: st) M = ((z ≤ x → ok d mX11_laysNeeds n0 Q n c w 152 ls st M) ∧ (¬ (z ≤ x) → ok d mX11_laysNeeds n0 Q n c w 108 ls st M)) := ok_ico (pc := 105) (off := 47) (k := .ge) rfl 152 (by decide)
theorem sX11_laysNeeds_108 : ok d mX11_laysNeeds n0 Q n c w 108 ls st M = ok d mX11_laysNeeds n0 Q n c w 109 ls (.int 0 :: st) M := ok_r rfl (by rw [← ic_0]; rfl)
theorem sX11_laysNeeds_109 {l0 l1 l2 l3 : Option Value} {x : Int32} : ok d mX11_laysNeeds n0 Q n c w 109 (l0 :: l1 :: l2 :: l3 :: ls) (.int x :: st) M = ok d mX11_laysNeeds n0 Q n c w 110 (l0 :: l1 :: am_kl l2 :: some (.int x) :: ls) st M := ok_ist (k := 3) rfl (Or.inr ⟨_, rfl, rfl⟩) (by decide) rfl rfl
theorem sX11_laysNeeds_110 {l0 l1 l2 : Option Value} {x : Int32} : ok d mX11_laysNeeds n0 Q n c w 110 (l0 :: l1 :: l2 :: some (.int x) :: ls) st M = ok d mX11_laysNeeds n0 Q n c w 111 (l0 :: l1 :: l2 :: some (.int x) :: ls) (.int x :: st) M := ok_r rfl rfl
theorem sX11_laysNeeds_111 {l0 l1 : Option Value} {x : Int32} : ok d mX11_laysNeeds n0 Q n c w 111 (l0 :: l1 :: some (.int x) :: ls) st M = ok d mX11_laysNeeds n0 Q n c w 112 (l0 :: l1 :: some (.int x) :: ls) (.int x :: st) M := ok_r rfl rfl
theorem sX11_laysNeeds_112 {x z : Int32} : ok d mX11_laysNeeds n0 Q n c w 112 ls (.int z :: .int x :: st) M = ((z ≤ x → ok d mX11_laysNeeds n0 Q n c w 146 ls st M) ∧ (¬ (z ≤ x) → ok d mX11_laysNeeds n0 Q n c w 115 ls st M)) := ok_ico (pc := 112) (off := 34) (k := .ge) rfl 146 (by decide)
theorem sX11_laysNeeds_115 {x : Nat} : ok d mX11_laysNeeds n0 Q n c w 115 (some (.ref x) :: ls) st M = ok d mX11_laysNeeds n0 Q n c w 116 (some (.ref x) :: ls) (.ref x :: st) M := ok_r rfl rfl
theorem sX11_laysNeeds_116 {a : Nat} : ok d mX11_laysNeeds n0 Q n c w 116 ls (.ref a :: st) M = (am_ob n a 11 ∧ ok d mX11_laysNeeds n0 Q n c w 119 ls (am_rv (gR M a 38) :: st) M) := ok_get (q := (11, 38, 2, true, 1233)) rfl rfl rfl rfl
theorem sX11_laysNeeds_119 {l0 l1 : Option Value} {x : Int32} : ok d mX11_laysNeeds n0 Q n c w 119 (l0 :: l1 :: some (.int x) :: ls) st M = ok d mX11_laysNeeds n0 Q n c w 120 (l0 :: l1 :: some (.int x) :: ls) (.int x :: st) M := ok_r rfl rfl
theorem sX11_laysNeeds_120 {a : Nat} {i : Int32} : ok d mX11_laysNeeds n0 Q n c w 120 ls (.int i :: .ref a :: st) M = (am_in n M a 1 i ∧ ok d mX11_laysNeeds n0 Q n c w 121 ls (.int (gI M a i.toNatClampNeg) :: st) M) := ok_r rfl rfl
theorem sX11_laysNeeds_121 {l0 l1 l2 : Option Value} {x : Int32} : ok d mX11_laysNeeds n0 Q n c w 121 (l0 :: l1 :: l2 :: some (.int x) :: ls) st M = ok d mX11_laysNeeds n0 Q n c w 122 (l0 :: l1 :: l2 :: some (.int x) :: ls) (.int x :: st) M := ok_r rfl rfl
theorem sX11_laysNeeds_122 {a0 : Int32} {a1 : Int32} : ok d mX11_laysNeeds n0 Q n 0 0 122 ls [.int a1, .int a0] M = am_big d mX11_has [.int a0, .int a1] n M (kI fun x M' => ok d mX11_laysNeeds n0 Q n 0 0 125 ls (.int x :: []) M') := ok_sta (y := mX11_laysNeeds) (y' := mX11_has) (pc := 122) (k := 264) (ps := [1481, 1482, 110, 1483]) (c := 0) (w := 0) (st := [.int a1, .int a0]) (as := [.int a0, .int a1]) (rest := []) (kd := 1) rfl rfl (by decide) ⟨Nat.le_of_ble_eq_true rfl, Nat.le_of_ble_eq_true rfl, Nat.le_of_ble_eq_true rfl, Nat.le_of_ble_eq_true rfl, Nat.le_of_ble_eq_true rfl⟩ rfl rfl (am_contI (Or.inr rfl) rfl)
theorem sX11_laysNeeds_125 {x : Int32} : ok d mX11_laysNeeds n0 Q n c w 125 ls (.int x :: st) M = ((x = 0 → ok d mX11_laysNeeds n0 Q n c w 140 ls st M) ∧ (¬ (x = 0) → ok d mX11_laysNeeds n0 Q n c w 128 ls st M)) := ok_ifc (pc := 125) (off := 15) (k := .eq) rfl 140 (by decide)
theorem sX11_laysNeeds_128 {x : Nat} : ok d mX11_laysNeeds n0 Q n c w 128 (some (.ref x) :: ls) st M = ok d mX11_laysNeeds n0 Q n c w 129 (some (.ref x) :: ls) (.ref x :: st) M := ok_r rfl rfl
theorem sX11_laysNeeds_129 {a : Nat} : ok d mX11_laysNeeds n0 Q n c w 129 ls (.ref a :: st) M = (am_ob n a 11 ∧ ok d mX11_laysNeeds n0 Q n c w 132 ls (am_rv (gR M a 39) :: st) M) := ok_get (q := (11, 39, 2, true, 1234)) rfl rfl rfl rfl
theorem sX11_laysNeeds_132 {l0 l1 l2 : Option Value} {x : Int32} : ok d mX11_laysNeeds n0 Q n c w 132 (l0 :: l1 :: l2 :: some (.int x) :: ls) st M = ok d mX11_laysNeeds n0 Q n c w 133 (l0 :: l1 :: l2 :: some (.int x) :: ls) (.int x :: st) M := ok_r rfl rfl
theorem sX11_laysNeeds_133 {x : Nat} {z : Int32} : ok d mX11_laysNeeds n0 Q n c w 133 ls (.int z :: .ref x :: st) M = ok d mX11_laysNeeds n0 Q n c w 134 ls (.int z :: .ref x :: .int z :: .ref x :: st) M := ok_r rfl rfl
theorem sX11_laysNeeds_134 {a : Nat} {i : Int32} : ok d mX11_laysNeeds n0 Q n c w 134 ls (.int i :: .ref a :: st) M = (am_in n M a 1 i ∧ ok d mX11_laysNeeds n0 Q n c w 135 ls (.int (gI M a i.toNatClampNeg) :: st) M) := ok_r rfl rfl
theorem sX11_laysNeeds_135 : ok d mX11_laysNeeds n0 Q n c w 135 ls st M = ok d mX11_laysNeeds n0 Q n c w 136 ls (.int 1 :: st) M := ok_r rfl (by rw [← ic_1]; rfl)
theorem sX11_laysNeeds_136 {l0 l1 : Option Value} {x : Int32} : ok d mX11_laysNeeds n0 Q n c w 136 (l0 :: l1 :: some (.int x) :: ls) st M = ok d mX11_laysNeeds n0 Q n c w 137 (l0 :: l1 :: some (.int x) :: ls) (.int x :: st) M := ok_r rfl rfl
theorem sX11_laysNeeds_137 {x z : Int32} : ok d mX11_laysNeeds n0 Q n c w 137 ls (.int z :: .int x :: st) M = ok d mX11_laysNeeds n0 Q n c w 138 ls (.int (x <<< (z &&& 31)) :: st) M := ok_r rfl rfl
theorem sX11_laysNeeds_138 {x z : Int32} : ok d mX11_laysNeeds n0 Q n c w 138 ls (.int z :: .int x :: st) M = ok d mX11_laysNeeds n0 Q n c w 139 ls (.int (x ||| z) :: st) M := ok_r rfl rfl
theorem sX11_laysNeeds_139 {a : Nat} {i x : Int32} : ok d mX11_laysNeeds n0 Q n c w 139 ls (.int x :: .int i :: .ref a :: st) M = (am_iw n a 1 i ∧ ok d mX11_laysNeeds n0 Q n c w 140 ls st (sI M a i.toNatClampNeg x)) := ok_r rfl rfl
theorem sX11_laysNeeds_140 {l0 l1 l2 : Option Value} {x : Int32} : ok d mX11_laysNeeds n0 Q n c w 140 (l0 :: l1 :: l2 :: some (.int x) :: ls) st M = ok d mX11_laysNeeds n0 Q n c w 143 (l0 :: l1 :: am_kl l2 :: some (.int (x + 1)) :: ls) st M := ok_inc (k := 3) rfl rfl ic_1 (by decide) rfl rfl
theorem sX11_laysNeeds_143 : ok d mX11_laysNeeds n0 Q n c w 143 ls st M = ok d mX11_laysNeeds n0 Q n c w 110 ls st M := ok_got (pc := 143) (off := (-33)) rfl 110 (by decide)
theorem sX11_laysNeeds_146 {l0 l1 : Option Value} {x : Int32} : ok d mX11_laysNeeds n0 Q n c w 146 (l0 :: l1 :: some (.int x) :: ls) st M = ok d mX11_laysNeeds n0 Q n c w 149 (l0 :: am_kl l1 :: some (.int (x + 1)) :: ls) st M := ok_inc (k := 2) rfl rfl ic_1 (by decide) rfl rfl
theorem sX11_laysNeeds_149 : ok d mX11_laysNeeds n0 Q n c w 149 ls st M = ok d mX11_laysNeeds n0 Q n c w 103 ls st M := ok_got (pc := 149) (off := (-46)) rfl 103 (by decide)
theorem sX11_laysNeeds_152 : ok d mX11_laysNeeds n Q n 0 0 152 ls [] M = Q none M := (ok_reV rfl rfl).trans (am_andT ⟨rfl, rfl, rfl⟩)
theorem eX11_laysNeeds {a0 : Nat} {n : Nat} {M : am_M} {Q : am_Q} : am_big (d + 1) mX11_laysNeeds [.ref a0] n M Q = ok d mX11_laysNeeds n Q n 0 0 0 [some (.ref a0), none, none, none] [] M := rfl
theorem sX11_isDeed_0 {l0 : Option Value} {x : Int32} : ok d mX11_isDeed n0 Q n c w 0 (l0 :: some (.int x) :: ls) st M = ok d mX11_isDeed n0 Q n c w 1 (l0 :: some (.int x) :: ls) (.int x :: st) M := ok_r rfl rfl
theorem sX11_isDeed_1 {x : Int32} : ok d mX11_isDeed n0 Q n c w 1 ls (.int x :: st) M = ((x < 0 → ok d mX11_isDeed n0 Q n c w 19 ls st M) ∧ (¬ (x < 0) → ok d mX11_isDeed n0 Q n c w 4 ls st M)) := ok_ifc (pc := 1) (off := 18) (k := .lt) rfl 19 (by decide)
theorem sX11_isDeed_4 {l0 : Option Value} {x : Int32} : ok d mX11_isDeed n0 Q n c w 4 (l0 :: some (.int x) :: ls) st M = ok d mX11_isDeed n0 Q n c w 5 (l0 :: some (.int x) :: ls) (.int x :: st) M := ok_r rfl rfl
theorem sX11_isDeed_5 {x : Nat} : ok d mX11_isDeed n0 Q n c w 5 (some (.ref x) :: ls) st M = ok d mX11_isDeed n0 Q n c w 6 (some (.ref x) :: ls) (.ref x :: st) M := ok_r rfl rfl
theorem sX11_isDeed_6 {a : Nat} : ok d mX11_isDeed n0 Q n c w 6 ls (.ref a :: st) M = (am_ob n a 11 ∧ ok d mX11_isDeed n0 Q n c w 9 ls (am_rv (gR M a 27) :: st) M) := ok_get (q := (11, 27, 2, true, 1222)) rfl rfl rfl rfl
theorem sX11_isDeed_9 : ok d mX11_isDeed n0 Q n c w 9 ls st M = ok d mX11_isDeed n0 Q n c w 11 ls (.int 36 :: st) M := ok_r rfl (by rw [← bc_36]; rfl)
theorem sX11_isDeed_11 {a : Nat} {i : Int32} : ok d mX11_isDeed n0 Q n c w 11 ls (.int i :: .ref a :: st) M = (am_in n M a 1 i ∧ ok d mX11_isDeed n0 Q n c w 12 ls (.int (gI M a i.toNatClampNeg) :: st) M) := ok_r rfl rfl
theorem sX11_isDeed_12 {x z : Int32} : ok d mX11_isDeed n0 Q n c w 12 ls (.int z :: .int x :: st) M = ((z ≤ x → ok d mX11_isDeed n0 Q n c w 19 ls st M) ∧ (¬ (z ≤ x) → ok d mX11_isDeed n0 Q n c w 15 ls st M)) := ok_ico (pc := 12) (off := 7) (k := .ge) rfl 19 (by decide)
theorem sX11_isDeed_15 : ok d mX11_isDeed n0 Q n c w 15 ls st M = ok d mX11_isDeed n0 Q n c w 16 ls (.int 1 :: st) M := ok_r rfl (by rw [← ic_1]; rfl)
theorem sX11_isDeed_16 : ok d mX11_isDeed n0 Q n c w 16 ls st M = ok d mX11_isDeed n0 Q n c w 20 ls st M := ok_got (pc := 16) (off := 4) rfl 20 (by decide)
theorem sX11_isDeed_19 : ok d mX11_isDeed n0 Q n c w 19 ls st M = ok d mX11_isDeed n0 Q n c w 20 ls (.int 0 :: st) M := ok_r rfl (by rw [← ic_0]; rfl)
theorem sX11_isDeed_20 {x : Int32} : ok d mX11_isDeed n Q n 0 0 20 ls [.int x] M = ((x = 0 ∨ x = 1) ∧ Q (some (.int x)) M) := ok_reZ rfl rfl ⟨rfl, rfl, rfl⟩
theorem eX11_isDeed {a0 : Nat} {a1 : Int32} {n : Nat} {M : am_M} {Q : am_Q} : am_big (d + 1) mX11_isDeed [.ref a0, .int a1] n M Q = ok d mX11_isDeed n Q n 0 0 0 [some (.ref a0), some (.int a1)] [] M := rfl
theorem sX11_isHand_0 {l0 : Option Value} {x : Int32} : ok d mX11_isHand n0 Q n c w 0 (l0 :: some (.int x) :: ls) st M = ok d mX11_isHand n0 Q n c w 1 (l0 :: some (.int x) :: ls) (.int x :: st) M := ok_r rfl rfl
theorem sX11_isHand_1 {x : Int32} : ok d mX11_isHand n0 Q n c w 1 ls (.int x :: st) M = ((x < 0 → ok d mX11_isHand n0 Q n c w 16 ls st M) ∧ (¬ (x < 0) → ok d mX11_isHand n0 Q n c w 4 ls st M)) := ok_ifc (pc := 1) (off := 15) (k := .lt) rfl 16 (by decide)
theorem sX11_isHand_4 {l0 : Option Value} {x : Int32} : ok d mX11_isHand n0 Q n c w 4 (l0 :: some (.int x) :: ls) st M = ok d mX11_isHand n0 Q n c w 5 (l0 :: some (.int x) :: ls) (.int x :: st) M := ok_r rfl rfl
theorem sX11_isHand_5 {x : Nat} : ok d mX11_isHand n0 Q n c w 5 (some (.ref x) :: ls) st M = ok d mX11_isHand n0 Q n c w 6 (some (.ref x) :: ls) (.ref x :: st) M := ok_r rfl rfl
theorem sX11_isHand_6 {a : Nat} : ok d mX11_isHand n0 Q n c w 6 ls (.ref a :: st) M = (am_ob n a 11 ∧ ok d mX11_isHand n0 Q n c w 9 ls (.int (gI M a 23) :: st) M) := ok_get (q := (11, 23, 0, false, 1218)) rfl rfl rfl rfl
theorem sX11_isHand_9 {x z : Int32} : ok d mX11_isHand n0 Q n c w 9 ls (.int z :: .int x :: st) M = ((z ≤ x → ok d mX11_isHand n0 Q n c w 16 ls st M) ∧ (¬ (z ≤ x) → ok d mX11_isHand n0 Q n c w 12 ls st M)) := ok_ico (pc := 9) (off := 7) (k := .ge) rfl 16 (by decide)
theorem sX11_isHand_12 : ok d mX11_isHand n0 Q n c w 12 ls st M = ok d mX11_isHand n0 Q n c w 13 ls (.int 1 :: st) M := ok_r rfl (by rw [← ic_1]; rfl)
theorem sX11_isHand_13 : ok d mX11_isHand n0 Q n c w 13 ls st M = ok d mX11_isHand n0 Q n c w 17 ls st M := ok_got (pc := 13) (off := 4) rfl 17 (by decide)
theorem sX11_isHand_16 : ok d mX11_isHand n0 Q n c w 16 ls st M = ok d mX11_isHand n0 Q n c w 17 ls (.int 0 :: st) M := ok_r rfl (by rw [← ic_0]; rfl)
theorem sX11_isHand_17 {x : Int32} : ok d mX11_isHand n Q n 0 0 17 ls [.int x] M = ((x = 0 ∨ x = 1) ∧ Q (some (.int x)) M) := ok_reZ rfl rfl ⟨rfl, rfl, rfl⟩
theorem eX11_isHand {a0 : Nat} {a1 : Int32} {n : Nat} {M : am_M} {Q : am_Q} : am_big (d + 1) mX11_isHand [.ref a0, .int a1] n M Q = ok d mX11_isHand n Q n 0 0 0 [some (.ref a0), some (.int a1)] [] M := rfl
theorem sX11_isSort_0 {x : Int32} : ok d mX11_isSort n0 Q n c w 0 (some (.int x) :: ls) st M = ok d mX11_isSort n0 Q n c w 1 (some (.int x) :: ls) (.int x :: st) M := ok_r rfl rfl
theorem sX11_isSort_1 {x : Int32} : ok d mX11_isSort n0 Q n c w 1 ls (.int x :: st) M = ok d mX11_isSort n0 Q n c w 2 ls (.long x.toInt64 :: st) M := ok_r rfl rfl
theorem sX11_isSort_2 : ok d mX11_isSort n0 Q n c w 2 ls st M = ok d mX11_isSort n0 Q n c w 3 ls (.long 0 :: st) M := ok_r rfl rfl
theorem sX11_isSort_3 : ok d mX11_isSort n0 Q n c w 3 ls st M = ok d mX11_isSort n0 Q n c w 6 ls (.long 4 :: st) M := ok_ldcl (v := (4, 1619)) rfl rfl rfl
theorem sX11_isSort_6 {a0 : Int64} {a1 : Int64} {a2 : Int64} : ok d mX11_isSort n0 Q n 0 0 6 ls [.long a2, .long a1, .long a0] M = am_big d mX11_isIn [.long a0, .long a1, .long a2] n M (kI fun x M' => ok d mX11_isSort n0 Q n 0 0 9 ls (.int x :: []) M') := ok_sta (y := mX11_isSort) (y' := mX11_isIn) (pc := 6) (k := 241) (ps := [1386, 1387, 110, 1388]) (c := 0) (w := 0) (st := [.long a2, .long a1, .long a0]) (as := [.long a0, .long a1, .long a2]) (rest := []) (kd := 1) rfl rfl (by decide) ⟨Nat.le_of_ble_eq_true rfl, Nat.le_of_ble_eq_true rfl, Nat.le_of_ble_eq_true rfl, Nat.le_of_ble_eq_true rfl, Nat.le_of_ble_eq_true rfl⟩ rfl rfl (am_contI (Or.inr rfl) rfl)
theorem sX11_isSort_9 {x : Int32} : ok d mX11_isSort n Q n 0 0 9 ls [.int x] M = ((x = 0 ∨ x = 1) ∧ Q (some (.int x)) M) := ok_reZ rfl rfl ⟨rfl, rfl, rfl⟩
theorem eX11_isSort {a0 : Int32} {n : Nat} {M : am_M} {Q : am_Q} : am_big (d + 1) mX11_isSort [.int a0] n M Q = ok d mX11_isSort n Q n 0 0 0 [some (.int a0)] [] M := rfl
theorem sX11_apprentice_0 {x : Nat} : ok d mX11_apprentice n0 Q n c w 0 (some (.ref x) :: ls) st M = ok d mX11_apprentice n0 Q n c w 1 (some (.ref x) :: ls) (.ref x :: st) M := ok_r rfl rfl
theorem sX11_apprentice_1 {x : Nat} : ok d mX11_apprentice n0 Q n c w 1 (some (.ref x) :: ls) st M = ok d mX11_apprentice n0 Q n c w 2 (some (.ref x) :: ls) (.ref x :: st) M := ok_r rfl rfl
theorem sX11_apprentice_2 {l0 : Option Value} {x : Int32} : ok d mX11_apprentice n0 Q n c w 2 (l0 :: some (.int x) :: ls) st M = ok d mX11_apprentice n0 Q n c w 3 (l0 :: some (.int x) :: ls) (.int x :: st) M := ok_r rfl rfl
theorem sX11_apprentice_3 {b : Nat} {v0 : Nat} {a0 : Int32} : ok d mX11_apprentice n0 Q n 0 0 3 ls [.int a0, .ref b, .ref v0] M = (am_ob n b 11 ∧ am_big d mX11_isHand [.ref b, .int a0] n M (kI fun x M' => ok d mX11_apprentice n0 Q n 0 0 6 ls (.int x :: .ref v0 :: []) M')) := ok_vir (y := mX11_apprentice) (y' := mX11_isHand) (pc := 3) (k := 348) (ps := [1570, 1572, 62, 110, 1573]) (c := 0) (w := 0) (st := [.int a0, .ref b, .ref v0]) (as := [.ref b, .int a0]) (rest := [.ref v0]) (b := b) rfl rfl rfl ⟨Nat.le_of_ble_eq_true rfl, Nat.le_of_ble_eq_true rfl, Nat.le_of_ble_eq_true rfl, Nat.le_of_ble_eq_true rfl, Nat.le_of_ble_eq_true rfl⟩ rfl rfl (am_contI (Or.inr rfl) rfl)
theorem sX11_apprentice_6 {x : Int32} : ok d mX11_apprentice n0 Q n c w 6 ls (.int x :: st) M = ((x = 0 → ok d mX11_apprentice n0 Q n c w 23 ls st M) ∧ (¬ (x = 0) → ok d mX11_apprentice n0 Q n c w 9 ls st M)) := ok_ifc (pc := 6) (off := 17) (k := .eq) rfl 23 (by decide)
theorem sX11_apprentice_9 {l0 l1 : Option Value} {x : Int32} : ok d mX11_apprentice n0 Q n c w 9 (l0 :: l1 :: some (.int x) :: ls) st M = ok d mX11_apprentice n0 Q n c w 10 (l0 :: l1 :: some (.int x) :: ls) (.int x :: st) M := ok_r rfl rfl
theorem sX11_apprentice_10 {x : Int32} : ok d mX11_apprentice n0 Q n c w 10 ls (.int x :: st) M = ok d mX11_apprentice n0 Q n c w 11 ls (.long x.toInt64 :: st) M := ok_r rfl rfl
theorem sX11_apprentice_11 : ok d mX11_apprentice n0 Q n c w 11 ls st M = ok d mX11_apprentice n0 Q n c w 12 ls (.long 0 :: st) M := ok_r rfl rfl
theorem sX11_apprentice_12 : ok d mX11_apprentice n0 Q n c w 12 ls st M = ok d mX11_apprentice n0 Q n c w 13 ls (.long 1 :: st) M := ok_r rfl rfl
theorem sX11_apprentice_13 {v0 : Nat} {a0 : Int64} {a1 : Int64} {a2 : Int64} : ok d mX11_apprentice n0 Q n 0 0 13 ls [.long a2, .long a1, .long a0, .ref v0] M = am_big d mX11_isIn [.long a0, .long a1, .long a2] n M (kI fun x M' => ok d mX11_apprentice n0 Q n 0 0 16 ls (.int x :: .ref v0 :: []) M') := ok_sta (y := mX11_apprentice) (y' := mX11_isIn) (pc := 13) (k := 241) (ps := [1386, 1387, 110, 1388]) (c := 0) (w := 0) (st := [.long a2, .long a1, .long a0, .ref v0]) (as := [.long a0, .long a1, .long a2]) (rest := [.ref v0]) (kd := 1) rfl rfl (by decide) ⟨Nat.le_of_ble_eq_true rfl, Nat.le_of_ble_eq_true rfl, Nat.le_of_ble_eq_true rfl, Nat.le_of_ble_eq_true rfl, Nat.le_of_ble_eq_true rfl⟩ rfl rfl (am_contI (Or.inr rfl) rfl)
theorem sX11_apprentice_16 {x : Int32} : ok d mX11_apprentice n0 Q n c w 16 ls (.int x :: st) M = ((x = 0 → ok d mX11_apprentice n0 Q n c w 23 ls st M) ∧ (¬ (x = 0) → ok d mX11_apprentice n0 Q n c w 19 ls st M)) := ok_ifc (pc := 16) (off := 7) (k := .eq) rfl 23 (by decide)
theorem sX11_apprentice_19 : ok d mX11_apprentice n0 Q n c w 19 ls st M = ok d mX11_apprentice n0 Q n c w 20 ls (.int 0 :: st) M := ok_r rfl (by rw [← ic_0]; rfl)
theorem sX11_apprentice_20 : ok d mX11_apprentice n0 Q n c w 20 ls st M = ok d mX11_apprentice n0 Q n c w 24 ls st M := ok_got (pc := 20) (off := 4) rfl 24 (by decide)
theorem sX11_apprentice_23 : ok d mX11_apprentice n0 Q n c w 23 ls st M = ok d mX11_apprentice n0 Q n c w 24 ls (.int 1 :: st) M := ok_r rfl (by rw [← ic_1]; rfl)
theorem sX11_apprentice_24 {a : Nat} {x : Int32} : ok d mX11_apprentice n0 Q n c w 24 ls (.int x :: .ref a :: st) M = (am_ob n a 11 ∧ ok d mX11_apprentice n0 Q n c w 27 ls st (sI M a 0 x)) := ok_put (q := (11, 0, 0, false, 1195)) rfl rfl (fun h => by cases h) rfl rfl
theorem sX11_apprentice_27 {x : Nat} : ok d mX11_apprentice n0 Q n c w 27 (some (.ref x) :: ls) st M = ok d mX11_apprentice n0 Q n c w 28 (some (.ref x) :: ls) (.ref x :: st) M := ok_r rfl rfl
theorem sX11_apprentice_28 {a : Nat} : ok d mX11_apprentice n0 Q n c w 28 ls (.ref a :: st) M = (am_ob n a 11 ∧ ok d mX11_apprentice n0 Q n c w 31 ls (.int (gI M a 0) :: st) M) := ok_get (q := (11, 0, 0, false, 1195)) rfl rfl rfl rfl
theorem sX11_apprentice_31 {x : Int32} : ok d mX11_apprentice n0 Q n c w 31 ls (.int x :: st) M = ((x ≤ 0 → ok d mX11_apprentice n0 Q n c w 36 ls st M) ∧ (¬ (x ≤ 0) → ok d mX11_apprentice n0 Q n c w 34 ls st M)) := ok_ifc (pc := 31) (off := 5) (k := .le) rfl 36 (by decide)
theorem sX11_apprentice_34 : ok d mX11_apprentice n0 Q n c w 34 ls st M = ok d mX11_apprentice n0 Q n c w 35 ls (.int 0 :: st) M := ok_r rfl (by rw [← ic_0]; rfl)
theorem sX11_apprentice_35 {x : Int32} : ok d mX11_apprentice n Q n 0 0 35 ls [.int x] M = Q (some (.int x)) M := ok_reI rfl rfl ⟨rfl, rfl, rfl⟩
theorem sX11_apprentice_36 {l0 l1 : Option Value} {x : Int32} : ok d mX11_apprentice n0 Q n c w 36 (l0 :: l1 :: some (.int x) :: ls) st M = ok d mX11_apprentice n0 Q n c w 37 (l0 :: l1 :: some (.int x) :: ls) (.int x :: st) M := ok_r rfl rfl
theorem sX11_apprentice_37 {x : Int32} : ok d mX11_apprentice n0 Q n c w 37 ls (.int x :: st) M = ((¬ x = 0 → ok d mX11_apprentice n0 Q n c w 52 ls st M) ∧ (¬ (¬ x = 0) → ok d mX11_apprentice n0 Q n c w 40 ls st M)) := ok_ifc (pc := 37) (off := 15) (k := .ne) rfl 52 (by decide)
theorem sX11_apprentice_40 {x : Nat} : ok d mX11_apprentice n0 Q n c w 40 (some (.ref x) :: ls) st M = ok d mX11_apprentice n0 Q n c w 41 (some (.ref x) :: ls) (.ref x :: st) M := ok_r rfl rfl
theorem sX11_apprentice_41 {a : Nat} : ok d mX11_apprentice n0 Q n c w 41 ls (.ref a :: st) M = (am_ob n a 11 ∧ ok d mX11_apprentice n0 Q n c w 44 ls (am_rv (gR M a 27) :: st) M) := ok_get (q := (11, 27, 2, true, 1222)) rfl rfl rfl rfl
theorem sX11_apprentice_44 : ok d mX11_apprentice n0 Q n c w 44 ls st M = ok d mX11_apprentice n0 Q n c w 46 ls (.int 37 :: st) M := ok_r rfl (by rw [← bc_37]; rfl)
theorem sX11_apprentice_46 {l0 : Option Value} {x : Int32} : ok d mX11_apprentice n0 Q n c w 46 (l0 :: some (.int x) :: ls) st M = ok d mX11_apprentice n0 Q n c w 47 (l0 :: some (.int x) :: ls) (.int x :: st) M := ok_r rfl rfl
theorem sX11_apprentice_47 {x z : Int32} : ok d mX11_apprentice n0 Q n c w 47 ls (.int z :: .int x :: st) M = ok d mX11_apprentice n0 Q n c w 48 ls (.int (x + z) :: st) M := ok_r rfl rfl
theorem sX11_apprentice_48 {a : Nat} {i : Int32} : ok d mX11_apprentice n0 Q n c w 48 ls (.int i :: .ref a :: st) M = (am_in n M a 1 i ∧ ok d mX11_apprentice n0 Q n c w 49 ls (.int (gI M a i.toNatClampNeg) :: st) M) := ok_r rfl rfl
theorem sX11_apprentice_49 : ok d mX11_apprentice n0 Q n c w 49 ls st M = ok d mX11_apprentice n0 Q n c w 63 ls st M := ok_got (pc := 49) (off := 14) rfl 63 (by decide)
theorem sX11_apprentice_52 {x : Nat} : ok d mX11_apprentice n0 Q n c w 52 (some (.ref x) :: ls) st M = ok d mX11_apprentice n0 Q n c w 53 (some (.ref x) :: ls) (.ref x :: st) M := ok_r rfl rfl
theorem sX11_apprentice_53 {a : Nat} : ok d mX11_apprentice n0 Q n c w 53 ls (.ref a :: st) M = (am_ob n a 11 ∧ ok d mX11_apprentice n0 Q n c w 56 ls (am_rv (gR M a 27) :: st) M) := ok_get (q := (11, 27, 2, true, 1222)) rfl rfl rfl rfl
theorem sX11_apprentice_56 : ok d mX11_apprentice n0 Q n c w 56 ls st M = ok d mX11_apprentice n0 Q n c w 58 ls (.int 41 :: st) M := ok_r rfl (by rw [← bc_41]; rfl)
theorem sX11_apprentice_58 {a : Nat} {i : Int32} : ok d mX11_apprentice n0 Q n c w 58 ls (.int i :: .ref a :: st) M = (am_in n M a 1 i ∧ ok d mX11_apprentice n0 Q n c w 59 ls (.int (gI M a i.toNatClampNeg) :: st) M) := ok_r rfl rfl
theorem sX11_apprentice_59 {l0 : Option Value} {x : Int32} : ok d mX11_apprentice n0 Q n c w 59 (l0 :: some (.int x) :: ls) st M = ok d mX11_apprentice n0 Q n c w 60 (l0 :: some (.int x) :: ls) (.int x :: st) M := ok_r rfl rfl
theorem sX11_apprentice_60 {x z : Int32} : ok d mX11_apprentice n0 Q n c w 60 ls (.int z :: .int x :: st) M = ok d mX11_apprentice n0 Q n c w 61 ls (.int (x >>> (z &&& 31)) :: st) M := ok_r rfl rfl
theorem sX11_apprentice_61 : ok d mX11_apprentice n0 Q n c w 61 ls st M = ok d mX11_apprentice n0 Q n c w 62 ls (.int 1 :: st) M := ok_r rfl (by rw [← ic_1]; rfl)
theorem sX11_apprentice_62 {x z : Int32} : ok d mX11_apprentice n0 Q n c w 62 ls (.int z :: .int x :: st) M = ok d mX11_apprentice n0 Q n c w 63 ls (.int (x &&& z) :: st) M := ok_r rfl rfl
theorem sX11_apprentice_63 {x : Int32} : ok d mX11_apprentice n Q n 0 0 63 ls [.int x] M = Q (some (.int x)) M := ok_reI rfl rfl ⟨rfl, rfl, rfl⟩
theorem eX11_apprentice {a0 : Nat} {a1 : Int32} {a2 : Int32} {n : Nat} {M : am_M} {Q : am_Q} : am_big (d + 1) mX11_apprentice [.ref a0, .int a1, .int a2] n M Q = ok d mX11_apprentice n Q n 0 0 0 [some (.ref a0), some (.int a1), some (.int a2)] [] M := rfl
theorem sX11_shape_0 {x : Nat} : ok d mX11_shape n0 Q n c w 0 (some (.ref x) :: ls) st M = ok d mX11_shape n0 Q n c w 1 (some (.ref x) :: ls) (.ref x :: st) M := ok_r rfl rfl
theorem sX11_shape_1 : ok d mX11_shape n0 Q n c w 1 ls st M = ok d mX11_shape n0 Q n c w 2 ls (.int 0 :: st) M := ok_r rfl (by rw [← ic_0]; rfl)
theorem sX11_shape_2 {a : Nat} {x : Int32} : ok d mX11_shape n0 Q n c w 2 ls (.int x :: .ref a :: st) M = (am_ob n a 11 ∧ ok d mX11_shape n0 Q n c w 5 ls st (sI M a 0 x)) := ok_put (q := (11, 0, 0, false, 1195)) rfl rfl (fun h => by cases h) rfl rfl
theorem sX11_shape_5 {x : Nat} : ok d mX11_shape n0 Q n c w 5 (some (.ref x) :: ls) st M = ok d mX11_shape n0 Q n c w 6 (some (.ref x) :: ls) (.ref x :: st) M := ok_r rfl rfl
theorem sX11_shape_6 {x : Nat} : ok d mX11_shape n0 Q n c w 6 (some (.ref x) :: ls) st M = ok d mX11_shape n0 Q n c w 7 (some (.ref x) :: ls) (.ref x :: st) M := ok_r rfl rfl
theorem sX11_shape_7 {a : Nat} : ok d mX11_shape n0 Q n c w 7 ls (.ref a :: st) M = (am_ob n a 11 ∧ ok d mX11_shape n0 Q n c w 10 ls (am_rv (gR M a 27) :: st) M) := ok_get (q := (11, 27, 2, true, 1222)) rfl rfl rfl rfl
theorem sX11_shape_10 {b : Nat} {a0 : Nat} : ok d mX11_shape n0 Q n 0 0 10 ls [.ref a0, .ref b] M = (am_ob n b 11 ∧ am_big d mX11_stands [.ref b, .ref a0] n M (kV fun M' => ok d mX11_shape n0 Q n 0 0 13 ls [] M')) := ok_vir (y := mX11_shape) (y' := mX11_stands) (pc := 10) (k := 329) (ps := [1578, 1580, 63, 110, 1581]) (c := 0) (w := 0) (st := [.ref a0, .ref b]) (as := [.ref b, .ref a0]) (rest := []) (b := b) rfl rfl rfl ⟨Nat.le_of_ble_eq_true rfl, Nat.le_of_ble_eq_true rfl, Nat.le_of_ble_eq_true rfl, Nat.le_of_ble_eq_true rfl, Nat.le_of_ble_eq_true rfl⟩ rfl rfl (am_contV rfl)
theorem sX11_shape_13 {x : Nat} : ok d mX11_shape n0 Q n c w 13 (some (.ref x) :: ls) st M = ok d mX11_shape n0 Q n c w 14 (some (.ref x) :: ls) (.ref x :: st) M := ok_r rfl rfl
theorem sX11_shape_14 {l0 : Option Value} {x : Int32} : ok d mX11_shape n0 Q n c w 14 (l0 :: some (.int x) :: ls) st M = ok d mX11_shape n0 Q n c w 15 (l0 :: some (.int x) :: ls) (.int x :: st) M := ok_r rfl rfl
theorem sX11_shape_15 {b : Nat} {a0 : Int32} : ok d mX11_shape n0 Q n 0 0 15 ls [.int a0, .ref b] M = (am_ob n b 11 ∧ am_big d mX11_isThere [.ref b, .int a0] n M (kI fun x M' => ok d mX11_shape n0 Q n 0 0 18 ls (.int x :: []) M')) := ok_vir (y := mX11_shape) (y' := mX11_isThere) (pc := 15) (k := 338) (ps := [1582, 1584, 64, 110, 1585]) (c := 0) (w := 0) (st := [.int a0, .ref b]) (as := [.ref b, .int a0]) (rest := []) (b := b) rfl rfl rfl ⟨Nat.le_of_ble_eq_true rfl, Nat.le_of_ble_eq_true rfl, Nat.le_of_ble_eq_true rfl, Nat.le_of_ble_eq_true rfl, Nat.le_of_ble_eq_true rfl⟩ rfl rfl (am_contI (Or.inr rfl) rfl)
theorem sX11_shape_18 {x : Int32} : ok d mX11_shape n0 Q n c w 18 ls (.int x :: st) M = ((x = 0 → ok d mX11_shape n0 Q n c w 33 ls st M) ∧ (¬ (x = 0) → ok d mX11_shape n0 Q n c w 21 ls st M)) := ok_ifc (pc := 18) (off := 15) (k := .eq) rfl 33 (by decide)
theorem sX11_shape_21 {l0 l1 : Option Value} {x : Int32} : ok d mX11_shape n0 Q n c w 21 (l0 :: l1 :: some (.int x) :: ls) st M = ok d mX11_shape n0 Q n c w 22 (l0 :: l1 :: some (.int x) :: ls) (.int x :: st) M := ok_r rfl rfl
theorem sX11_shape_22 {x : Int32} : ok d mX11_shape n0 Q n c w 22 ls (.int x :: st) M = ok d mX11_shape n0 Q n c w 23 ls (.long x.toInt64 :: st) M := ok_r rfl rfl
theorem sX11_shape_23 : ok d mX11_shape n0 Q n c w 23 ls st M = ok d mX11_shape n0 Q n c w 24 ls (.long 0 :: st) M := ok_r rfl rfl
theorem sX11_shape_24 : ok d mX11_shape n0 Q n c w 24 ls st M = ok d mX11_shape n0 Q n c w 27 ls (.long 5 :: st) M := ok_ldcl (v := (5, 1589)) rfl rfl rfl
theorem sX11_shape_27 {a0 : Int64} {a1 : Int64} {a2 : Int64} : ok d mX11_shape n0 Q n 0 0 27 ls [.long a2, .long a1, .long a0] M = am_big d mX11_isIn [.long a0, .long a1, .long a2] n M (kI fun x M' => ok d mX11_shape n0 Q n 0 0 30 ls (.int x :: []) M') := ok_sta (y := mX11_shape) (y' := mX11_isIn) (pc := 27) (k := 241) (ps := [1386, 1387, 110, 1388]) (c := 0) (w := 0) (st := [.long a2, .long a1, .long a0]) (as := [.long a0, .long a1, .long a2]) (rest := []) (kd := 1) rfl rfl (by decide) ⟨Nat.le_of_ble_eq_true rfl, Nat.le_of_ble_eq_true rfl, Nat.le_of_ble_eq_true rfl, Nat.le_of_ble_eq_true rfl, Nat.le_of_ble_eq_true rfl⟩ rfl rfl (am_contI (Or.inr rfl) rfl)
theorem sX11_shape_30 {x : Int32} : ok d mX11_shape n0 Q n c w 30 ls (.int x :: st) M = ((¬ x = 0 → ok d mX11_shape n0 Q n c w 35 ls st M) ∧ (¬ (¬ x = 0) → ok d mX11_shape n0 Q n c w 33 ls st M)) := ok_ifc (pc := 30) (off := 5) (k := .ne) rfl 35 (by decide)
theorem sX11_shape_33 : ok d mX11_shape n0 Q n c w 33 ls st M = ok d mX11_shape n0 Q n c w 34 ls (.int (-1) :: st) M := ok_r rfl (by rw [← ic_m1]; rfl)
theorem sX11_shape_34 {x : Int32} : ok d mX11_shape n Q n 0 0 34 ls [.int x] M = Q (some (.int x)) M := ok_reI rfl rfl ⟨rfl, rfl, rfl⟩
theorem sX11_shape_35 {l0 l1 : Option Value} {x : Int32} : ok d mX11_shape n0 Q n c w 35 (l0 :: l1 :: some (.int x) :: ls) st M = ok d mX11_shape n0 Q n c w 36 (l0 :: l1 :: some (.int x) :: ls) (.int x :: st) M := ok_r rfl rfl
theorem sX11_shape_36 {x : Int32} : ok d mX11_shape n0 Q n c w 36 ls (.int x :: st) M = (((x = 0 → ok d mX11_shape n0 Q n c w 72 ls st M) ∧ (x = 1 → ok d mX11_shape n0 Q n c w 79 ls st M) ∧ (x = 2 → ok d mX11_shape n0 Q n c w 86 ls st M) ∧ (x = 3 → ok d mX11_shape n0 Q n c w 93 ls st M) ∧ (x = 4 → ok d mX11_shape n0 Q n c w 103 ls st M) ∧ True) ∧ (x.toInt < 0 ∨ 4 < x.toInt → ok d mX11_shape n0 Q n c w 125 ls st M)) := ok_tab (pc := 36) (len := 36) (dflt := 89) (lo := 0) (hi := 4) (offs := #[36, 43, 50, 57, 67]) rfl 125 (by decide) (by decide) (am_tsw_c (pc := 36) (k := 0) (k' := 1) (o := 36) (v := 0) 72 (by decide) (by decide) (by decide) (am_tsw_c (pc := 36) (k := 1) (k' := 2) (o := 43) (v := 1) 79 (by decide) (by decide) (by decide) (am_tsw_c (pc := 36) (k := 2) (k' := 3) (o := 50) (v := 2) 86 (by decide) (by decide) (by decide) (am_tsw_c (pc := 36) (k := 3) (k' := 4) (o := 57) (v := 3) 93 (by decide) (by decide) (by decide) (am_tsw_c (pc := 36) (k := 4) (k' := 5) (o := 67) (v := 4) 103 (by decide) (by decide) (by decide) rfl)))))
theorem sX11_shape_72 {x : Nat} : ok d mX11_shape n0 Q n c w 72 (some (.ref x) :: ls) st M = ok d mX11_shape n0 Q n c w 73 (some (.ref x) :: ls) (.ref x :: st) M := ok_r rfl rfl
theorem sX11_shape_73 {a : Nat} : ok d mX11_shape n0 Q n c w 73 ls (.ref a :: st) M = (am_ob n a 11 ∧ ok d mX11_shape n0 Q n c w 76 ls (am_rv (gR M a 31) :: st) M) := ok_get (q := (11, 31, 2, true, 1226)) rfl rfl rfl rfl
theorem sX11_shape_76 {l0 : Option Value} {x : Int32} : ok d mX11_shape n0 Q n c w 76 (l0 :: some (.int x) :: ls) st M = ok d mX11_shape n0 Q n c w 77 (l0 :: some (.int x) :: ls) (.int x :: st) M := ok_r rfl rfl
theorem sX11_shape_77 {a : Nat} {i : Int32} : ok d mX11_shape n0 Q n c w 77 ls (.int i :: .ref a :: st) M = (am_in n M a 1 i ∧ ok d mX11_shape n0 Q n c w 78 ls (.int (gI M a i.toNatClampNeg) :: st) M) := ok_r rfl rfl
theorem sX11_shape_78 {x : Int32} : ok d mX11_shape n Q n 0 0 78 ls [.int x] M = Q (some (.int x)) M := ok_reI rfl rfl ⟨rfl, rfl, rfl⟩
theorem sX11_shape_79 {x : Nat} : ok d mX11_shape n0 Q n c w 79 (some (.ref x) :: ls) st M = ok d mX11_shape n0 Q n c w 80 (some (.ref x) :: ls) (.ref x :: st) M := ok_r rfl rfl
theorem sX11_shape_80 {a : Nat} : ok d mX11_shape n0 Q n c w 80 ls (.ref a :: st) M = (am_ob n a 11 ∧ ok d mX11_shape n0 Q n c w 83 ls (am_rv (gR M a 32) :: st) M) := ok_get (q := (11, 32, 2, true, 1227)) rfl rfl rfl rfl
theorem sX11_shape_83 {l0 : Option Value} {x : Int32} : ok d mX11_shape n0 Q n c w 83 (l0 :: some (.int x) :: ls) st M = ok d mX11_shape n0 Q n c w 84 (l0 :: some (.int x) :: ls) (.int x :: st) M := ok_r rfl rfl
theorem sX11_shape_84 {a : Nat} {i : Int32} : ok d mX11_shape n0 Q n c w 84 ls (.int i :: .ref a :: st) M = (am_in n M a 1 i ∧ ok d mX11_shape n0 Q n c w 85 ls (.int (gI M a i.toNatClampNeg) :: st) M) := ok_r rfl rfl
theorem sX11_shape_85 {x : Int32} : ok d mX11_shape n Q n 0 0 85 ls [.int x] M = Q (some (.int x)) M := ok_reI rfl rfl ⟨rfl, rfl, rfl⟩
theorem sX11_shape_86 {x : Nat} : ok d mX11_shape n0 Q n c w 86 (some (.ref x) :: ls) st M = ok d mX11_shape n0 Q n c w 87 (some (.ref x) :: ls) (.ref x :: st) M := ok_r rfl rfl
theorem sX11_shape_87 {a : Nat} : ok d mX11_shape n0 Q n c w 87 ls (.ref a :: st) M = (am_ob n a 11 ∧ ok d mX11_shape n0 Q n c w 90 ls (am_rv (gR M a 33) :: st) M) := ok_get (q := (11, 33, 2, true, 1228)) rfl rfl rfl rfl
theorem sX11_shape_90 {l0 : Option Value} {x : Int32} : ok d mX11_shape n0 Q n c w 90 (l0 :: some (.int x) :: ls) st M = ok d mX11_shape n0 Q n c w 91 (l0 :: some (.int x) :: ls) (.int x :: st) M := ok_r rfl rfl
theorem sX11_shape_91 {a : Nat} {i : Int32} : ok d mX11_shape n0 Q n c w 91 ls (.int i :: .ref a :: st) M = (am_in n M a 1 i ∧ ok d mX11_shape n0 Q n c w 92 ls (.int (gI M a i.toNatClampNeg) :: st) M) := ok_r rfl rfl
theorem sX11_shape_92 {x : Int32} : ok d mX11_shape n Q n 0 0 92 ls [.int x] M = Q (some (.int x)) M := ok_reI rfl rfl ⟨rfl, rfl, rfl⟩
theorem sX11_shape_93 {x : Nat} : ok d mX11_shape n0 Q n c w 93 (some (.ref x) :: ls) st M = ok d mX11_shape n0 Q n c w 94 (some (.ref x) :: ls) (.ref x :: st) M := ok_r rfl rfl
theorem sX11_shape_94 {a : Nat} : ok d mX11_shape n0 Q n c w 94 ls (.ref a :: st) M = (am_ob n a 11 ∧ ok d mX11_shape n0 Q n c w 97 ls (am_rv (gR M a 34) :: st) M) := ok_get (q := (11, 34, 2, true, 1229)) rfl rfl rfl rfl
theorem sX11_shape_97 {l0 : Option Value} {x : Int32} : ok d mX11_shape n0 Q n c w 97 (l0 :: some (.int x) :: ls) st M = ok d mX11_shape n0 Q n c w 98 (l0 :: some (.int x) :: ls) (.int x :: st) M := ok_r rfl rfl
theorem sX11_shape_98 {a : Nat} {i : Int32} : ok d mX11_shape n0 Q n c w 98 ls (.int i :: .ref a :: st) M = (am_in n M a 1 i ∧ ok d mX11_shape n0 Q n c w 99 ls (.int (gI M a i.toNatClampNeg) :: st) M) := ok_r rfl rfl
theorem sX11_shape_99 : ok d mX11_shape n0 Q n c w 99 ls st M = ok d mX11_shape n0 Q n c w 101 ls (.int 10 :: st) M := ok_r rfl (by rw [← bc_10]; rfl)
theorem sX11_shape_101 {x z : Int32} : ok d mX11_shape n0 Q n c w 101 ls (.int z :: .int x :: st) M = (¬ z = 0 ∧ ok d mX11_shape n0 Q n c w 102 ls (.int (x - x / z * z) :: st) M) := ok_r rfl rfl
theorem sX11_shape_102 {x : Int32} : ok d mX11_shape n Q n 0 0 102 ls [.int x] M = Q (some (.int x)) M := ok_reI rfl rfl ⟨rfl, rfl, rfl⟩
theorem sX11_shape_103 {x : Nat} : ok d mX11_shape n0 Q n c w 103 (some (.ref x) :: ls) st M = ok d mX11_shape n0 Q n c w 104 (some (.ref x) :: ls) (.ref x :: st) M := ok_r rfl rfl
theorem sX11_shape_104 {a : Nat} : ok d mX11_shape n0 Q n c w 104 ls (.ref a :: st) M = (am_ob n a 11 ∧ ok d mX11_shape n0 Q n c w 107 ls (am_rv (gR M a 35) :: st) M) := ok_get (q := (11, 35, 2, true, 1230)) rfl rfl rfl rfl
theorem sX11_shape_107 {l0 : Option Value} {x : Int32} : ok d mX11_shape n0 Q n c w 107 (l0 :: some (.int x) :: ls) st M = ok d mX11_shape n0 Q n c w 108 (l0 :: some (.int x) :: ls) (.int x :: st) M := ok_r rfl rfl
theorem sX11_shape_108 {a : Nat} {i : Int32} : ok d mX11_shape n0 Q n c w 108 ls (.int i :: .ref a :: st) M = (am_in n M a 1 i ∧ ok d mX11_shape n0 Q n c w 109 ls (.int (gI M a i.toNatClampNeg) :: st) M) := ok_r rfl rfl
theorem sX11_shape_109 : ok d mX11_shape n0 Q n c w 109 ls st M = ok d mX11_shape n0 Q n c w 110 ls (.int (-1) :: st) M := ok_r rfl (by rw [← ic_m1]; rfl)
theorem sX11_shape_110 {x z : Int32} : ok d mX11_shape n0 Q n c w 110 ls (.int z :: .int x :: st) M = ((¬ x = z → ok d mX11_shape n0 Q n c w 118 ls st M) ∧ (¬ (¬ x = z) → ok d mX11_shape n0 Q n c w 113 ls st M)) := ok_ico (pc := 110) (off := 8) (k := .ne) rfl 118 (by decide)
theorem sX11_shape_113 : ok d mX11_shape n0 Q n c w 113 ls st M = ok d mX11_shape n0 Q n c w 115 ls (.int 9 :: st) M := ok_r rfl (by rw [← bc_9]; rfl)
theorem sX11_shape_115 : ok d mX11_shape n0 Q n c w 115 ls st M = ok d mX11_shape n0 Q n c w 124 ls st M := ok_got (pc := 115) (off := 9) rfl 124 (by decide)
theorem sX11_shape_118 {x : Nat} : ok d mX11_shape n0 Q n c w 118 (some (.ref x) :: ls) st M = ok d mX11_shape n0 Q n c w 119 (some (.ref x) :: ls) (.ref x :: st) M := ok_r rfl rfl
theorem sX11_shape_119 {a : Nat} : ok d mX11_shape n0 Q n c w 119 ls (.ref a :: st) M = (am_ob n a 11 ∧ ok d mX11_shape n0 Q n c w 122 ls (am_rv (gR M a 35) :: st) M) := ok_get (q := (11, 35, 2, true, 1230)) rfl rfl rfl rfl
theorem sX11_shape_122 {l0 : Option Value} {x : Int32} : ok d mX11_shape n0 Q n c w 122 (l0 :: some (.int x) :: ls) st M = ok d mX11_shape n0 Q n c w 123 (l0 :: some (.int x) :: ls) (.int x :: st) M := ok_r rfl rfl
theorem sX11_shape_123 {a : Nat} {i : Int32} : ok d mX11_shape n0 Q n c w 123 ls (.int i :: .ref a :: st) M = (am_in n M a 1 i ∧ ok d mX11_shape n0 Q n c w 124 ls (.int (gI M a i.toNatClampNeg) :: st) M) := ok_r rfl rfl
theorem sX11_shape_124 {x : Int32} : ok d mX11_shape n Q n 0 0 124 ls [.int x] M = Q (some (.int x)) M := ok_reI rfl rfl ⟨rfl, rfl, rfl⟩
theorem sX11_shape_125 {x : Nat} : ok d mX11_shape n0 Q n c w 125 (some (.ref x) :: ls) st M = ok d mX11_shape n0 Q n c w 126 (some (.ref x) :: ls) (.ref x :: st) M := ok_r rfl rfl
theorem sX11_shape_126 {a : Nat} : ok d mX11_shape n0 Q n c w 126 ls (.ref a :: st) M = (am_ob n a 11 ∧ ok d mX11_shape n0 Q n c w 129 ls (am_rv (gR M a 36) :: st) M) := ok_get (q := (11, 36, 2, true, 1231)) rfl rfl rfl rfl
theorem sX11_shape_129 {l0 : Option Value} {x : Int32} : ok d mX11_shape n0 Q n c w 129 (l0 :: some (.int x) :: ls) st M = ok d mX11_shape n0 Q n c w 130 (l0 :: some (.int x) :: ls) (.int x :: st) M := ok_r rfl rfl
theorem sX11_shape_130 {a : Nat} {i : Int32} : ok d mX11_shape n0 Q n c w 130 ls (.int i :: .ref a :: st) M = (am_in n M a 1 i ∧ ok d mX11_shape n0 Q n c w 131 ls (.int (gI M a i.toNatClampNeg) :: st) M) := ok_r rfl rfl
theorem sX11_shape_131 {x : Int32} : ok d mX11_shape n Q n 0 0 131 ls [.int x] M = Q (some (.int x)) M := ok_reI rfl rfl ⟨rfl, rfl, rfl⟩
theorem eX11_shape {a0 : Nat} {a1 : Int32} {a2 : Int32} {n : Nat} {M : am_M} {Q : am_Q} : am_big (d + 1) mX11_shape [.ref a0, .int a1, .int a2] n M Q = ok d mX11_shape n Q n 0 0 0 [some (.ref a0), some (.int a1), some (.int a2)] [] M := rfl
theorem sX11_deed_0 {x : Nat} : ok d mX11_deed n0 Q n c w 0 (some (.ref x) :: ls) st M = ok d mX11_deed n0 Q n c w 1 (some (.ref x) :: ls) (.ref x :: st) M := ok_r rfl rfl
theorem sX11_deed_1 : ok d mX11_deed n0 Q n c w 1 ls st M = ok d mX11_deed n0 Q n c w 2 ls (.int 0 :: st) M := ok_r rfl (by rw [← ic_0]; rfl)
theorem sX11_deed_2 {a : Nat} {x : Int32} : ok d mX11_deed n0 Q n c w 2 ls (.int x :: .ref a :: st) M = (am_ob n a 11 ∧ ok d mX11_deed n0 Q n c w 5 ls st (sI M a 0 x)) := ok_put (q := (11, 0, 0, false, 1195)) rfl rfl (fun h => by cases h) rfl rfl
theorem sX11_deed_5 {x : Nat} : ok d mX11_deed n0 Q n c w 5 (some (.ref x) :: ls) st M = ok d mX11_deed n0 Q n c w 6 (some (.ref x) :: ls) (.ref x :: st) M := ok_r rfl rfl
theorem sX11_deed_6 {l0 : Option Value} {x : Int32} : ok d mX11_deed n0 Q n c w 6 (l0 :: some (.int x) :: ls) st M = ok d mX11_deed n0 Q n c w 7 (l0 :: some (.int x) :: ls) (.int x :: st) M := ok_r rfl rfl
theorem sX11_deed_7 {b : Nat} {a0 : Int32} : ok d mX11_deed n0 Q n 0 0 7 ls [.int a0, .ref b] M = (am_ob n b 11 ∧ am_big d mX11_isDeed [.ref b, .int a0] n M (kI fun x M' => ok d mX11_deed n0 Q n 0 0 10 ls (.int x :: []) M')) := ok_vir (y := mX11_deed) (y' := mX11_isDeed) (pc := 7) (k := 351) (ps := [1594, 1596, 65, 110, 1597]) (c := 0) (w := 0) (st := [.int a0, .ref b]) (as := [.ref b, .int a0]) (rest := []) (b := b) rfl rfl rfl ⟨Nat.le_of_ble_eq_true rfl, Nat.le_of_ble_eq_true rfl, Nat.le_of_ble_eq_true rfl, Nat.le_of_ble_eq_true rfl, Nat.le_of_ble_eq_true rfl⟩ rfl rfl (am_contI (Or.inr rfl) rfl)
theorem sX11_deed_10 {x : Int32} : ok d mX11_deed n0 Q n c w 10 ls (.int x :: st) M = ((x = 0 → ok d mX11_deed n0 Q n c w 38 ls st M) ∧ (¬ (x = 0) → ok d mX11_deed n0 Q n c w 13 ls st M)) := ok_ifc (pc := 10) (off := 28) (k := .eq) rfl 38 (by decide)
theorem sX11_deed_13 {l0 l1 : Option Value} {x : Int32} : ok d mX11_deed n0 Q n c w 13 (l0 :: l1 :: some (.int x) :: ls) st M = ok d mX11_deed n0 Q n c w 14 (l0 :: l1 :: some (.int x) :: ls) (.int x :: st) M := ok_r rfl rfl
theorem sX11_deed_14 {x : Int32} : ok d mX11_deed n0 Q n c w 14 ls (.int x :: st) M = ok d mX11_deed n0 Q n c w 15 ls (.long x.toInt64 :: st) M := ok_r rfl rfl
theorem sX11_deed_15 : ok d mX11_deed n0 Q n c w 15 ls st M = ok d mX11_deed n0 Q n c w 16 ls (.long 0 :: st) M := ok_r rfl rfl
theorem sX11_deed_16 : ok d mX11_deed n0 Q n c w 16 ls st M = ok d mX11_deed n0 Q n c w 19 ls (.long 2 :: st) M := ok_ldcl (v := (2, 1385)) rfl rfl rfl
theorem sX11_deed_19 {a0 : Int64} {a1 : Int64} {a2 : Int64} : ok d mX11_deed n0 Q n 0 0 19 ls [.long a2, .long a1, .long a0] M = am_big d mX11_isIn [.long a0, .long a1, .long a2] n M (kI fun x M' => ok d mX11_deed n0 Q n 0 0 22 ls (.int x :: []) M') := ok_sta (y := mX11_deed) (y' := mX11_isIn) (pc := 19) (k := 241) (ps := [1386, 1387, 110, 1388]) (c := 0) (w := 0) (st := [.long a2, .long a1, .long a0]) (as := [.long a0, .long a1, .long a2]) (rest := []) (kd := 1) rfl rfl (by decide) ⟨Nat.le_of_ble_eq_true rfl, Nat.le_of_ble_eq_true rfl, Nat.le_of_ble_eq_true rfl, Nat.le_of_ble_eq_true rfl, Nat.le_of_ble_eq_true rfl⟩ rfl rfl (am_contI (Or.inr rfl) rfl)
theorem sX11_deed_22 {x : Int32} : ok d mX11_deed n0 Q n c w 22 ls (.int x :: st) M = ((x = 0 → ok d mX11_deed n0 Q n c w 38 ls st M) ∧ (¬ (x = 0) → ok d mX11_deed n0 Q n c w 25 ls st M)) := ok_ifc (pc := 22) (off := 16) (k := .eq) rfl 38 (by decide)
theorem sX11_deed_25 {x : Nat} : ok d mX11_deed n0 Q n c w 25 (some (.ref x) :: ls) st M = ok d mX11_deed n0 Q n c w 26 (some (.ref x) :: ls) (.ref x :: st) M := ok_r rfl rfl
theorem sX11_deed_26 {a : Nat} : ok d mX11_deed n0 Q n c w 26 ls (.ref a :: st) M = (am_ob n a 11 ∧ ok d mX11_deed n0 Q n c w 29 ls (am_rv (gR M a 27) :: st) M) := ok_get (q := (11, 27, 2, true, 1222)) rfl rfl rfl rfl
theorem sX11_deed_29 : ok d mX11_deed n0 Q n c w 29 ls st M = ok d mX11_deed n0 Q n c w 30 ls (.int 3 :: st) M := ok_r rfl (by rw [← ic_3]; rfl)
theorem sX11_deed_30 {l0 : Option Value} {x : Int32} : ok d mX11_deed n0 Q n c w 30 (l0 :: some (.int x) :: ls) st M = ok d mX11_deed n0 Q n c w 31 (l0 :: some (.int x) :: ls) (.int x :: st) M := ok_r rfl rfl
theorem sX11_deed_31 {x z : Int32} : ok d mX11_deed n0 Q n c w 31 ls (.int z :: .int x :: st) M = ok d mX11_deed n0 Q n c w 32 ls (.int (x * z) :: st) M := ok_r rfl rfl
theorem sX11_deed_32 {l0 l1 : Option Value} {x : Int32} : ok d mX11_deed n0 Q n c w 32 (l0 :: l1 :: some (.int x) :: ls) st M = ok d mX11_deed n0 Q n c w 33 (l0 :: l1 :: some (.int x) :: ls) (.int x :: st) M := ok_r rfl rfl
theorem sX11_deed_33 {x z : Int32} : ok d mX11_deed n0 Q n c w 33 ls (.int z :: .int x :: st) M = ok d mX11_deed n0 Q n c w 34 ls (.int (x + z) :: st) M := ok_r rfl rfl
theorem sX11_deed_34 {a : Nat} {i : Int32} : ok d mX11_deed n0 Q n c w 34 ls (.int i :: .ref a :: st) M = (am_in n M a 1 i ∧ ok d mX11_deed n0 Q n c w 35 ls (.int (gI M a i.toNatClampNeg) :: st) M) := ok_r rfl rfl
theorem sX11_deed_35 : ok d mX11_deed n0 Q n c w 35 ls st M = ok d mX11_deed n0 Q n c w 39 ls st M := ok_got (pc := 35) (off := 4) rfl 39 (by decide)
theorem sX11_deed_38 : ok d mX11_deed n0 Q n c w 38 ls st M = ok d mX11_deed n0 Q n c w 39 ls (.int (-1) :: st) M := ok_r rfl (by rw [← ic_m1]; rfl)
theorem sX11_deed_39 {x : Int32} : ok d mX11_deed n Q n 0 0 39 ls [.int x] M = Q (some (.int x)) M := ok_reI rfl rfl ⟨rfl, rfl, rfl⟩
theorem eX11_deed {a0 : Nat} {a1 : Int32} {a2 : Int32} {n : Nat} {M : am_M} {Q : am_Q} : am_big (d + 1) mX11_deed [.ref a0, .int a1, .int a2] n M Q = ok d mX11_deed n Q n 0 0 0 [some (.ref a0), some (.int a1), some (.int a2)] [] M := rfl
theorem sX11_law_0 {x : Nat} : ok d mX11_law n0 Q n c w 0 (some (.ref x) :: ls) st M = ok d mX11_law n0 Q n c w 1 (some (.ref x) :: ls) (.ref x :: st) M := ok_r rfl rfl
theorem sX11_law_1 : ok d mX11_law n0 Q n c w 1 ls st M = ok d mX11_law n0 Q n c w 2 ls (.int 0 :: st) M := ok_r rfl (by rw [← ic_0]; rfl)
theorem sX11_law_2 {a : Nat} {x : Int32} : ok d mX11_law n0 Q n c w 2 ls (.int x :: .ref a :: st) M = (am_ob n a 11 ∧ ok d mX11_law n0 Q n c w 5 ls st (sI M a 0 x)) := ok_put (q := (11, 0, 0, false, 1195)) rfl rfl (fun h => by cases h) rfl rfl
theorem sX11_law_5 {l0 : Option Value} {x : Int32} : ok d mX11_law n0 Q n c w 5 (l0 :: some (.int x) :: ls) st M = ok d mX11_law n0 Q n c w 6 (l0 :: some (.int x) :: ls) (.int x :: st) M := ok_r rfl rfl
theorem sX11_law_6 : ok d mX11_law n0 Q n c w 6 ls st M = ok d mX11_law n0 Q n c w 7 ls (.int (-1) :: st) M := ok_r rfl (by rw [← ic_m1]; rfl)
theorem sX11_law_7 {x z : Int32} : ok d mX11_law n0 Q n c w 7 ls (.int z :: .int x :: st) M = ((x = z → ok d mX11_law n0 Q n c w 28 ls st M) ∧ (¬ (x = z) → ok d mX11_law n0 Q n c w 10 ls st M)) := ok_ico (pc := 7) (off := 21) (k := .eq) rfl 28 (by decide)
theorem sX11_law_10 {l0 : Option Value} {x : Int32} : ok d mX11_law n0 Q n c w 10 (l0 :: some (.int x) :: ls) st M = ok d mX11_law n0 Q n c w 11 (l0 :: some (.int x) :: ls) (.int x :: st) M := ok_r rfl rfl
theorem sX11_law_11 {x : Int32} : ok d mX11_law n0 Q n c w 11 ls (.int x :: st) M = ok d mX11_law n0 Q n c w 12 ls (.long x.toInt64 :: st) M := ok_r rfl rfl
theorem sX11_law_12 : ok d mX11_law n0 Q n c w 12 ls st M = ok d mX11_law n0 Q n c w 13 ls (.long 0 :: st) M := ok_r rfl rfl
theorem sX11_law_13 {x : Nat} : ok d mX11_law n0 Q n c w 13 (some (.ref x) :: ls) st M = ok d mX11_law n0 Q n c w 14 (some (.ref x) :: ls) (.ref x :: st) M := ok_r rfl rfl
theorem sX11_law_14 {a : Nat} : ok d mX11_law n0 Q n c w 14 ls (.ref a :: st) M = (am_ob n a 11 ∧ ok d mX11_law n0 Q n c w 17 ls (.int (gI M a 7) :: st) M) := ok_get (q := (11, 7, 0, false, 1202)) rfl rfl rfl rfl
theorem sX11_law_17 : ok d mX11_law n0 Q n c w 17 ls st M = ok d mX11_law n0 Q n c w 18 ls (.int 1 :: st) M := ok_r rfl (by rw [← ic_1]; rfl)
theorem sX11_law_18 {x z : Int32} : ok d mX11_law n0 Q n c w 18 ls (.int z :: .int x :: st) M = ok d mX11_law n0 Q n c w 19 ls (.int (x - z) :: st) M := ok_r rfl rfl
theorem sX11_law_19 {x : Int32} : ok d mX11_law n0 Q n c w 19 ls (.int x :: st) M = ok d mX11_law n0 Q n c w 20 ls (.long x.toInt64 :: st) M := ok_r rfl rfl
theorem sX11_law_20 {a0 : Int64} {a1 : Int64} {a2 : Int64} : ok d mX11_law n0 Q n 0 0 20 ls [.long a2, .long a1, .long a0] M = am_big d mX11_isIn [.long a0, .long a1, .long a2] n M (kI fun x M' => ok d mX11_law n0 Q n 0 0 23 ls (.int x :: []) M') := ok_sta (y := mX11_law) (y' := mX11_isIn) (pc := 20) (k := 241) (ps := [1386, 1387, 110, 1388]) (c := 0) (w := 0) (st := [.long a2, .long a1, .long a0]) (as := [.long a0, .long a1, .long a2]) (rest := []) (kd := 1) rfl rfl (by decide) ⟨Nat.le_of_ble_eq_true rfl, Nat.le_of_ble_eq_true rfl, Nat.le_of_ble_eq_true rfl, Nat.le_of_ble_eq_true rfl, Nat.le_of_ble_eq_true rfl⟩ rfl rfl (am_contI (Or.inr rfl) rfl)
theorem sX11_law_23 {x : Int32} : ok d mX11_law n0 Q n c w 23 ls (.int x :: st) M = ((¬ x = 0 → ok d mX11_law n0 Q n c w 28 ls st M) ∧ (¬ (¬ x = 0) → ok d mX11_law n0 Q n c w 26 ls st M)) := ok_ifc (pc := 23) (off := 5) (k := .ne) rfl 28 (by decide)
theorem sX11_law_26 : ok d mX11_law n0 Q n c w 26 ls st M = ok d mX11_law n0 Q n c w 27 ls (.int 0 :: st) M := ok_r rfl (by rw [← ic_0]; rfl)
theorem sX11_law_27 {x : Int32} : ok d mX11_law n Q n 0 0 27 ls [.int x] M = ((x = 0 ∨ x = 1) ∧ Q (some (.int x)) M) := ok_reZ rfl rfl ⟨rfl, rfl, rfl⟩
theorem sX11_law_28 {x : Nat} : ok d mX11_law n0 Q n c w 28 (some (.ref x) :: ls) st M = ok d mX11_law n0 Q n c w 29 (some (.ref x) :: ls) (.ref x :: st) M := ok_r rfl rfl
theorem sX11_law_29 {l0 : Option Value} {x : Int32} : ok d mX11_law n0 Q n c w 29 (l0 :: some (.int x) :: ls) st M = ok d mX11_law n0 Q n c w 30 (l0 :: some (.int x) :: ls) (.int x :: st) M := ok_r rfl rfl
theorem sX11_law_30 {a : Nat} {x : Int32} : ok d mX11_law n0 Q n c w 30 ls (.int x :: .ref a :: st) M = (am_ob n a 11 ∧ ok d mX11_law n0 Q n c w 33 ls st (sI M a 29 x)) := ok_put (q := (11, 29, 0, false, 1224)) rfl rfl (fun h => by cases h) rfl rfl
theorem sX11_law_33 : ok d mX11_law n0 Q n c w 33 ls st M = ok d mX11_law n0 Q n c w 34 ls (.int 1 :: st) M := ok_r rfl (by rw [← ic_1]; rfl)
theorem sX11_law_34 {x : Int32} : ok d mX11_law n Q n 0 0 34 ls [.int x] M = ((x = 0 ∨ x = 1) ∧ Q (some (.int x)) M) := ok_reZ rfl rfl ⟨rfl, rfl, rfl⟩
theorem eX11_law {a0 : Nat} {a1 : Int32} {n : Nat} {M : am_M} {Q : am_Q} : am_big (d + 1) mX11_law [.ref a0, .int a1] n M Q = ok d mX11_law n Q n 0 0 0 [some (.ref a0), some (.int a1)] [] M := rfl
theorem sX11_haste_0 {x : Nat} : ok d mX11_haste n0 Q n c w 0 (some (.ref x) :: ls) st M = ok d mX11_haste n0 Q n c w 1 (some (.ref x) :: ls) (.ref x :: st) M := ok_r rfl rfl
theorem sX11_haste_1 : ok d mX11_haste n0 Q n c w 1 ls st M = ok d mX11_haste n0 Q n c w 2 ls (.int 0 :: st) M := ok_r rfl (by rw [← ic_0]; rfl)
theorem sX11_haste_2 {a : Nat} {x : Int32} : ok d mX11_haste n0 Q n c w 2 ls (.int x :: .ref a :: st) M = (am_ob n a 11 ∧ ok d mX11_haste n0 Q n c w 5 ls st (sI M a 0 x)) := ok_put (q := (11, 0, 0, false, 1195)) rfl rfl (fun h => by cases h) rfl rfl
theorem sX11_haste_5 {l0 : Option Value} {x : Int32} : ok d mX11_haste n0 Q n c w 5 (l0 :: some (.int x) :: ls) st M = ok d mX11_haste n0 Q n c w 6 (l0 :: some (.int x) :: ls) (.int x :: st) M := ok_r rfl rfl
theorem sX11_haste_6 {x : Int32} : ok d mX11_haste n0 Q n c w 6 ls (.int x :: st) M = ok d mX11_haste n0 Q n c w 7 ls (.long x.toInt64 :: st) M := ok_r rfl rfl
theorem sX11_haste_7 : ok d mX11_haste n0 Q n c w 7 ls st M = ok d mX11_haste n0 Q n c w 8 ls (.long 0 :: st) M := ok_r rfl rfl
theorem sX11_haste_8 : ok d mX11_haste n0 Q n c w 8 ls st M = ok d mX11_haste n0 Q n c w 11 ls (.long 9 :: st) M := ok_ldcl (v := (9, 1606)) rfl rfl rfl
theorem sX11_haste_11 {a0 : Int64} {a1 : Int64} {a2 : Int64} : ok d mX11_haste n0 Q n 0 0 11 ls [.long a2, .long a1, .long a0] M = am_big d mX11_isIn [.long a0, .long a1, .long a2] n M (kI fun x M' => ok d mX11_haste n0 Q n 0 0 14 ls (.int x :: []) M') := ok_sta (y := mX11_haste) (y' := mX11_isIn) (pc := 11) (k := 241) (ps := [1386, 1387, 110, 1388]) (c := 0) (w := 0) (st := [.long a2, .long a1, .long a0]) (as := [.long a0, .long a1, .long a2]) (rest := []) (kd := 1) rfl rfl (by decide) ⟨Nat.le_of_ble_eq_true rfl, Nat.le_of_ble_eq_true rfl, Nat.le_of_ble_eq_true rfl, Nat.le_of_ble_eq_true rfl, Nat.le_of_ble_eq_true rfl⟩ rfl rfl (am_contI (Or.inr rfl) rfl)
theorem sX11_haste_14 {x : Int32} : ok d mX11_haste n0 Q n c w 14 ls (.int x :: st) M = ((x = 0 → ok d mX11_haste n0 Q n c w 25 ls st M) ∧ (¬ (x = 0) → ok d mX11_haste n0 Q n c w 17 ls st M)) := ok_ifc (pc := 14) (off := 11) (k := .eq) rfl 25 (by decide)
theorem sX11_haste_17 {l0 : Option Value} {x : Int32} : ok d mX11_haste n0 Q n c w 17 (l0 :: some (.int x) :: ls) st M = ok d mX11_haste n0 Q n c w 18 (l0 :: some (.int x) :: ls) (.int x :: st) M := ok_r rfl rfl
theorem sX11_haste_18 {x : Nat} : ok d mX11_haste n0 Q n c w 18 (some (.ref x) :: ls) st M = ok d mX11_haste n0 Q n c w 19 (some (.ref x) :: ls) (.ref x :: st) M := ok_r rfl rfl
theorem sX11_haste_19 {a : Nat} : ok d mX11_haste n0 Q n c w 19 ls (.ref a :: st) M = (am_ob n a 11 ∧ ok d mX11_haste n0 Q n c w 22 ls (.int (gI M a 30) :: st) M) := ok_get (q := (11, 30, 0, false, 1225)) rfl rfl rfl rfl
theorem sX11_haste_22 {x z : Int32} : ok d mX11_haste n0 Q n c w 22 ls (.int z :: .int x :: st) M = ((¬ x = z → ok d mX11_haste n0 Q n c w 27 ls st M) ∧ (¬ (¬ x = z) → ok d mX11_haste n0 Q n c w 25 ls st M)) := ok_ico (pc := 22) (off := 5) (k := .ne) rfl 27 (by decide)
theorem sX11_haste_25 : ok d mX11_haste n0 Q n c w 25 ls st M = ok d mX11_haste n0 Q n c w 26 ls (.int 0 :: st) M := ok_r rfl (by rw [← ic_0]; rfl)
theorem sX11_haste_26 {x : Int32} : ok d mX11_haste n Q n 0 0 26 ls [.int x] M = ((x = 0 ∨ x = 1) ∧ Q (some (.int x)) M) := ok_reZ rfl rfl ⟨rfl, rfl, rfl⟩
theorem sX11_haste_27 {x : Nat} : ok d mX11_haste n0 Q n c w 27 (some (.ref x) :: ls) st M = ok d mX11_haste n0 Q n c w 28 (some (.ref x) :: ls) (.ref x :: st) M := ok_r rfl rfl
theorem sX11_haste_28 {l0 : Option Value} {x : Int32} : ok d mX11_haste n0 Q n c w 28 (l0 :: some (.int x) :: ls) st M = ok d mX11_haste n0 Q n c w 29 (l0 :: some (.int x) :: ls) (.int x :: st) M := ok_r rfl rfl
theorem sX11_haste_29 {a : Nat} {x : Int32} : ok d mX11_haste n0 Q n c w 29 ls (.int x :: .ref a :: st) M = (am_ob n a 11 ∧ ok d mX11_haste n0 Q n c w 32 ls st (sI M a 30 x)) := ok_put (q := (11, 30, 0, false, 1225)) rfl rfl (fun h => by cases h) rfl rfl
theorem sX11_haste_32 : ok d mX11_haste n0 Q n c w 32 ls st M = ok d mX11_haste n0 Q n c w 33 ls (.int 1 :: st) M := ok_r rfl (by rw [← ic_1]; rfl)
theorem sX11_haste_33 {x : Int32} : ok d mX11_haste n Q n 0 0 33 ls [.int x] M = ((x = 0 ∨ x = 1) ∧ Q (some (.int x)) M) := ok_reZ rfl rfl ⟨rfl, rfl, rfl⟩
theorem eX11_haste {a0 : Nat} {a1 : Int32} {n : Nat} {M : am_M} {Q : am_Q} : am_big (d + 1) mX11_haste [.ref a0, .int a1] n M Q = ok d mX11_haste n Q n 0 0 0 [some (.ref a0), some (.int a1)] [] M := rfl
theorem sX11_remember_0 {x : Nat} : ok d mX11_remember n0 Q n c w 0 (some (.ref x) :: ls) st M = ok d mX11_remember n0 Q n c w 1 (some (.ref x) :: ls) (.ref x :: st) M := ok_r rfl rfl
theorem sX11_remember_1 {a : Nat} : ok d mX11_remember n0 Q n c w 1 ls (.ref a :: st) M = (am_ob n a 11 ∧ ok d mX11_remember n0 Q n c w 4 ls (.int (gI M a 41) :: st) M) := ok_get (q := (11, 41, 0, false, 1236)) rfl rfl rfl rfl
theorem sX11_remember_4 : ok d mX11_remember n0 Q n c w 4 ls st M = ok d mX11_remember n0 Q n c w 6 ls (.int 40 :: st) M := ok_r rfl (by rw [← bc_40]; rfl)
theorem sX11_remember_6 {x z : Int32} : ok d mX11_remember n0 Q n c w 6 ls (.int z :: .int x :: st) M = ((¬ x = z → ok d mX11_remember n0 Q n c w 50 ls st M) ∧ (¬ (¬ x = z) → ok d mX11_remember n0 Q n c w 9 ls st M)) := ok_ico (pc := 6) (off := 44) (k := .ne) rfl 50 (by decide)
theorem sX11_remember_9 : ok d mX11_remember n0 Q n c w 9 ls st M = ok d mX11_remember n0 Q n c w 10 ls (.int 0 :: st) M := ok_r rfl (by rw [← ic_0]; rfl)
theorem sX11_remember_10 {l0 l1 : Option Value} {x : Int32} : ok d mX11_remember n0 Q n c w 10 (l0 :: l1 :: ls) (.int x :: st) M = ok d mX11_remember n0 Q n c w 11 (am_kl l0 :: some (.int x) :: ls) st M := ok_ist (k := 1) rfl (Or.inr ⟨_, rfl, rfl⟩) (by decide) rfl rfl
theorem sX11_remember_11 {l0 : Option Value} {x : Int32} : ok d mX11_remember n0 Q n c w 11 (l0 :: some (.int x) :: ls) st M = ok d mX11_remember n0 Q n c w 12 (l0 :: some (.int x) :: ls) (.int x :: st) M := ok_r rfl rfl
theorem sX11_remember_12 : ok d mX11_remember n0 Q n c w 12 ls st M = ok d mX11_remember n0 Q n c w 15 ls (.int 6396 :: st) M := ok_r rfl (by rw [← sc_6396]; rfl)
theorem sX11_remember_15 {x z : Int32} : ok d mX11_remember n0 Q n c w 15 ls (.int z :: .int x :: st) M = ((z ≤ x → ok d mX11_remember n0 Q n c w 40 ls st M) ∧ (¬ (z ≤ x) → ok d mX11_remember n0 Q n c w 18 ls st M)) := ok_ico (pc := 15) (off := 25) (k := .ge) rfl 40 (by decide)
theorem sX11_remember_18 {x : Nat} : ok d mX11_remember n0 Q n c w 18 (some (.ref x) :: ls) st M = ok d mX11_remember n0 Q n c w 19 (some (.ref x) :: ls) (.ref x :: st) M := ok_r rfl rfl
theorem sX11_remember_19 {a : Nat} : ok d mX11_remember n0 Q n c w 19 ls (.ref a :: st) M = (am_ob n a 11 ∧ ok d mX11_remember n0 Q n c w 22 ls (am_rv (gR M a 40) :: st) M) := ok_get (q := (11, 40, 2, true, 1235)) rfl rfl rfl rfl
theorem sX11_remember_22 {l0 : Option Value} {x : Int32} : ok d mX11_remember n0 Q n c w 22 (l0 :: some (.int x) :: ls) st M = ok d mX11_remember n0 Q n c w 23 (l0 :: some (.int x) :: ls) (.int x :: st) M := ok_r rfl rfl
theorem sX11_remember_23 {x : Nat} : ok d mX11_remember n0 Q n c w 23 (some (.ref x) :: ls) st M = ok d mX11_remember n0 Q n c w 24 (some (.ref x) :: ls) (.ref x :: st) M := ok_r rfl rfl
theorem sX11_remember_24 {a : Nat} : ok d mX11_remember n0 Q n c w 24 ls (.ref a :: st) M = (am_ob n a 11 ∧ ok d mX11_remember n0 Q n c w 27 ls (am_rv (gR M a 40) :: st) M) := ok_get (q := (11, 40, 2, true, 1235)) rfl rfl rfl rfl
theorem sX11_remember_27 {l0 : Option Value} {x : Int32} : ok d mX11_remember n0 Q n c w 27 (l0 :: some (.int x) :: ls) st M = ok d mX11_remember n0 Q n c w 28 (l0 :: some (.int x) :: ls) (.int x :: st) M := ok_r rfl rfl
theorem sX11_remember_28 : ok d mX11_remember n0 Q n c w 28 ls st M = ok d mX11_remember n0 Q n c w 31 ls (.int 164 :: st) M := ok_r rfl (by rw [← sc_164]; rfl)
theorem sX11_remember_31 {x z : Int32} : ok d mX11_remember n0 Q n c w 31 ls (.int z :: .int x :: st) M = ok d mX11_remember n0 Q n c w 32 ls (.int (x + z) :: st) M := ok_r rfl rfl
theorem sX11_remember_32 {a : Nat} {i : Int32} : ok d mX11_remember n0 Q n c w 32 ls (.int i :: .ref a :: st) M = (am_in n M a 1 i ∧ ok d mX11_remember n0 Q n c w 33 ls (.int (gI M a i.toNatClampNeg) :: st) M) := ok_r rfl rfl
theorem sX11_remember_33 {a : Nat} {i x : Int32} : ok d mX11_remember n0 Q n c w 33 ls (.int x :: .int i :: .ref a :: st) M = (am_iw n a 1 i ∧ ok d mX11_remember n0 Q n c w 34 ls st (sI M a i.toNatClampNeg x)) := ok_r rfl rfl
theorem sX11_remember_34 {l0 : Option Value} {x : Int32} : ok d mX11_remember n0 Q n c w 34 (l0 :: some (.int x) :: ls) st M = ok d mX11_remember n0 Q n c w 37 (am_kl l0 :: some (.int (x + 1)) :: ls) st M := ok_inc (k := 1) rfl rfl ic_1 (by decide) rfl rfl
theorem sX11_remember_37 : ok d mX11_remember n0 Q n c w 37 ls st M = ok d mX11_remember n0 Q n c w 11 ls st M := ok_got (pc := 37) (off := (-26)) rfl 11 (by decide)
theorem sX11_remember_40 {x : Nat} : ok d mX11_remember n0 Q n c w 40 (some (.ref x) :: ls) st M = ok d mX11_remember n0 Q n c w 41 (some (.ref x) :: ls) (.ref x :: st) M := ok_r rfl rfl
theorem sX11_remember_41 {x : Nat} : ok d mX11_remember n0 Q n c w 41 ls (.ref x :: st) M = ok d mX11_remember n0 Q n c w 42 ls (.ref x :: .ref x :: st) M := ok_r rfl rfl
theorem sX11_remember_42 {a : Nat} : ok d mX11_remember n0 Q n c w 42 ls (.ref a :: st) M = (am_ob n a 11 ∧ ok d mX11_remember n0 Q n c w 45 ls (.int (gI M a 41) :: st) M) := ok_get (q := (11, 41, 0, false, 1236)) rfl rfl rfl rfl
theorem sX11_remember_45 : ok d mX11_remember n0 Q n c w 45 ls st M = ok d mX11_remember n0 Q n c w 46 ls (.int 1 :: st) M := ok_r rfl (by rw [← ic_1]; rfl)
theorem sX11_remember_46 {x z : Int32} : ok d mX11_remember n0 Q n c w 46 ls (.int z :: .int x :: st) M = ok d mX11_remember n0 Q n c w 47 ls (.int (x - z) :: st) M := ok_r rfl rfl
theorem sX11_remember_47 {a : Nat} {x : Int32} : ok d mX11_remember n0 Q n c w 47 ls (.int x :: .ref a :: st) M = (am_ob n a 11 ∧ ok d mX11_remember n0 Q n c w 50 ls st (sI M a 41 x)) := ok_put (q := (11, 41, 0, false, 1236)) rfl rfl (fun h => by cases h) rfl rfl
theorem sX11_remember_50 : ok d mX11_remember n0 Q n c w 50 ls st M = ok d mX11_remember n0 Q n c w 51 ls (.int 0 :: st) M := ok_r rfl (by rw [← ic_0]; rfl)
theorem sX11_remember_51 {l0 l1 : Option Value} {x : Int32} : ok d mX11_remember n0 Q n c w 51 (l0 :: l1 :: ls) (.int x :: st) M = ok d mX11_remember n0 Q n c w 52 (am_kl l0 :: some (.int x) :: ls) st M := ok_ist (k := 1) rfl (Or.inr ⟨_, rfl, rfl⟩) (by decide) rfl rfl
theorem sX11_remember_52 {l0 : Option Value} {x : Int32} : ok d mX11_remember n0 Q n c w 52 (l0 :: some (.int x) :: ls) st M = ok d mX11_remember n0 Q n c w 53 (l0 :: some (.int x) :: ls) (.int x :: st) M := ok_r rfl rfl
theorem sX11_remember_53 : ok d mX11_remember n0 Q n c w 53 ls st M = ok d mX11_remember n0 Q n c w 56 ls (.int 164 :: st) M := ok_r rfl (by rw [← sc_164]; rfl)
theorem sX11_remember_56 {x z : Int32} : ok d mX11_remember n0 Q n c w 56 ls (.int z :: .int x :: st) M = ((z ≤ x → ok d mX11_remember n0 Q n c w 86 ls st M) ∧ (¬ (z ≤ x) → ok d mX11_remember n0 Q n c w 59 ls st M)) := ok_ico (pc := 56) (off := 30) (k := .ge) rfl 86 (by decide)
theorem sX11_remember_59 {x : Nat} : ok d mX11_remember n0 Q n c w 59 (some (.ref x) :: ls) st M = ok d mX11_remember n0 Q n c w 60 (some (.ref x) :: ls) (.ref x :: st) M := ok_r rfl rfl
theorem sX11_remember_60 {a : Nat} : ok d mX11_remember n0 Q n c w 60 ls (.ref a :: st) M = (am_ob n a 11 ∧ ok d mX11_remember n0 Q n c w 63 ls (am_rv (gR M a 40) :: st) M) := ok_get (q := (11, 40, 2, true, 1235)) rfl rfl rfl rfl
theorem sX11_remember_63 : ok d mX11_remember n0 Q n c w 63 ls st M = ok d mX11_remember n0 Q n c w 66 ls (.int 164 :: st) M := ok_r rfl (by rw [← sc_164]; rfl)
theorem sX11_remember_66 {x : Nat} : ok d mX11_remember n0 Q n c w 66 (some (.ref x) :: ls) st M = ok d mX11_remember n0 Q n c w 67 (some (.ref x) :: ls) (.ref x :: st) M := ok_r rfl rfl
theorem sX11_remember_67 {a : Nat} : ok d mX11_remember n0 Q n c w 67 ls (.ref a :: st) M = (am_ob n a 11 ∧ ok d mX11_remember n0 Q n c w 70 ls (.int (gI M a 41) :: st) M) := ok_get (q := (11, 41, 0, false, 1236)) rfl rfl rfl rfl
theorem sX11_remember_70 {x z : Int32} : ok d mX11_remember n0 Q n c w 70 ls (.int z :: .int x :: st) M = ok d mX11_remember n0 Q n c w 71 ls (.int (x * z) :: st) M := ok_r rfl rfl
theorem sX11_remember_71 {l0 : Option Value} {x : Int32} : ok d mX11_remember n0 Q n c w 71 (l0 :: some (.int x) :: ls) st M = ok d mX11_remember n0 Q n c w 72 (l0 :: some (.int x) :: ls) (.int x :: st) M := ok_r rfl rfl
theorem sX11_remember_72 {x z : Int32} : ok d mX11_remember n0 Q n c w 72 ls (.int z :: .int x :: st) M = ok d mX11_remember n0 Q n c w 73 ls (.int (x + z) :: st) M := ok_r rfl rfl
theorem sX11_remember_73 {x : Nat} : ok d mX11_remember n0 Q n c w 73 (some (.ref x) :: ls) st M = ok d mX11_remember n0 Q n c w 74 (some (.ref x) :: ls) (.ref x :: st) M := ok_r rfl rfl
theorem sX11_remember_74 {a : Nat} : ok d mX11_remember n0 Q n c w 74 ls (.ref a :: st) M = (am_ob n a 11 ∧ ok d mX11_remember n0 Q n c w 77 ls (am_rv (gR M a 27) :: st) M) := ok_get (q := (11, 27, 2, true, 1222)) rfl rfl rfl rfl
theorem sX11_remember_77 {l0 : Option Value} {x : Int32} : ok d mX11_remember n0 Q n c w 77 (l0 :: some (.int x) :: ls) st M = ok d mX11_remember n0 Q n c w 78 (l0 :: some (.int x) :: ls) (.int x :: st) M := ok_r rfl rfl
theorem sX11_remember_78 {a : Nat} {i : Int32} : ok d mX11_remember n0 Q n c w 78 ls (.int i :: .ref a :: st) M = (am_in n M a 1 i ∧ ok d mX11_remember n0 Q n c w 79 ls (.int (gI M a i.toNatClampNeg) :: st) M) := ok_r rfl rfl
theorem sX11_remember_79 {a : Nat} {i x : Int32} : ok d mX11_remember n0 Q n c w 79 ls (.int x :: .int i :: .ref a :: st) M = (am_iw n a 1 i ∧ ok d mX11_remember n0 Q n c w 80 ls st (sI M a i.toNatClampNeg x)) := ok_r rfl rfl
theorem sX11_remember_80 {l0 : Option Value} {x : Int32} : ok d mX11_remember n0 Q n c w 80 (l0 :: some (.int x) :: ls) st M = ok d mX11_remember n0 Q n c w 83 (am_kl l0 :: some (.int (x + 1)) :: ls) st M := ok_inc (k := 1) rfl rfl ic_1 (by decide) rfl rfl
theorem sX11_remember_83 : ok d mX11_remember n0 Q n c w 83 ls st M = ok d mX11_remember n0 Q n c w 52 ls st M := ok_got (pc := 83) (off := (-31)) rfl 52 (by decide)
theorem sX11_remember_86 {x : Nat} : ok d mX11_remember n0 Q n c w 86 (some (.ref x) :: ls) st M = ok d mX11_remember n0 Q n c w 87 (some (.ref x) :: ls) (.ref x :: st) M := ok_r rfl rfl
theorem sX11_remember_87 {x : Nat} : ok d mX11_remember n0 Q n c w 87 ls (.ref x :: st) M = ok d mX11_remember n0 Q n c w 88 ls (.ref x :: .ref x :: st) M := ok_r rfl rfl
theorem sX11_remember_88 {a : Nat} : ok d mX11_remember n0 Q n c w 88 ls (.ref a :: st) M = (am_ob n a 11 ∧ ok d mX11_remember n0 Q n c w 91 ls (.int (gI M a 41) :: st) M) := ok_get (q := (11, 41, 0, false, 1236)) rfl rfl rfl rfl
theorem sX11_remember_91 : ok d mX11_remember n0 Q n c w 91 ls st M = ok d mX11_remember n0 Q n c w 92 ls (.int 1 :: st) M := ok_r rfl (by rw [← ic_1]; rfl)
theorem sX11_remember_92 {x z : Int32} : ok d mX11_remember n0 Q n c w 92 ls (.int z :: .int x :: st) M = ok d mX11_remember n0 Q n c w 93 ls (.int (x + z) :: st) M := ok_r rfl rfl
theorem sX11_remember_93 {a : Nat} {x : Int32} : ok d mX11_remember n0 Q n c w 93 ls (.int x :: .ref a :: st) M = (am_ob n a 11 ∧ ok d mX11_remember n0 Q n c w 96 ls st (sI M a 41 x)) := ok_put (q := (11, 41, 0, false, 1236)) rfl rfl (fun h => by cases h) rfl rfl
theorem sX11_remember_96 : ok d mX11_remember n Q n 0 0 96 ls [] M = Q none M := (ok_reV rfl rfl).trans (am_andT ⟨rfl, rfl, rfl⟩)
theorem eX11_remember {a0 : Nat} {n : Nat} {M : am_M} {Q : am_Q} : am_big (d + 1) mX11_remember [.ref a0] n M Q = ok d mX11_remember n Q n 0 0 0 [some (.ref a0), none] [] M := rfl
theorem sX11_begins0_0 {x : Nat} : ok d mX11_begins0 n0 Q n c w 0 (some (.ref x) :: ls) st M = ok d mX11_begins0 n0 Q n c w 1 (some (.ref x) :: ls) (.ref x :: st) M := ok_r rfl rfl
theorem sX11_begins0_1 {b : Nat}  : ok d mX11_begins0 n0 Q n 0 0 1 ls [.ref b] M = (am_ob n b 11 ∧ am_big d mX11_remember [.ref b] n M (kV fun M' => ok d mX11_begins0 n0 Q n 0 0 4 ls [] M')) := ok_vir (y := mX11_begins0) (y' := mX11_remember) (pc := 1) (k := 354) (ps := [1632, 1634, 71, 110, 1635]) (c := 0) (w := 0) (st := [.ref b]) (as := [.ref b]) (rest := []) (b := b) rfl rfl rfl ⟨Nat.le_of_ble_eq_true rfl, Nat.le_of_ble_eq_true rfl, Nat.le_of_ble_eq_true rfl, Nat.le_of_ble_eq_true rfl, Nat.le_of_ble_eq_true rfl⟩ rfl rfl (am_contV rfl)
theorem sX11_begins0_4 {x : Nat} : ok d mX11_begins0 n0 Q n c w 4 (some (.ref x) :: ls) st M = ok d mX11_begins0 n0 Q n c w 5 (some (.ref x) :: ls) (.ref x :: st) M := ok_r rfl rfl
theorem sX11_begins0_5 {a : Nat} : ok d mX11_begins0 n0 Q n c w 5 ls (.ref a :: st) M = (am_ob n a 11 ∧ ok d mX11_begins0 n0 Q n c w 8 ls (am_rv (gR M a 27) :: st) M) := ok_get (q := (11, 27, 2, true, 1222)) rfl rfl rfl rfl
theorem sX11_begins0_8 : ok d mX11_begins0 n0 Q n c w 8 ls st M = ok d mX11_begins0 n0 Q n c w 10 ls (.int 42 :: st) M := ok_r rfl (by rw [← bc_42]; rfl)
theorem sX11_begins0_10 {x : Nat} {z : Int32} : ok d mX11_begins0 n0 Q n c w 10 ls (.int z :: .ref x :: st) M = ok d mX11_begins0 n0 Q n c w 11 ls (.int z :: .ref x :: .int z :: .ref x :: st) M := ok_r rfl rfl
theorem sX11_begins0_11 {a : Nat} {i : Int32} : ok d mX11_begins0 n0 Q n c w 11 ls (.int i :: .ref a :: st) M = (am_in n M a 1 i ∧ ok d mX11_begins0 n0 Q n c w 12 ls (.int (gI M a i.toNatClampNeg) :: st) M) := ok_r rfl rfl
theorem sX11_begins0_12 : ok d mX11_begins0 n0 Q n c w 12 ls st M = ok d mX11_begins0 n0 Q n c w 13 ls (.int 1 :: st) M := ok_r rfl (by rw [← ic_1]; rfl)
theorem sX11_begins0_13 {x z : Int32} : ok d mX11_begins0 n0 Q n c w 13 ls (.int z :: .int x :: st) M = ok d mX11_begins0 n0 Q n c w 14 ls (.int (x + z) :: st) M := ok_r rfl rfl
theorem sX11_begins0_14 {a : Nat} {i x : Int32} : ok d mX11_begins0 n0 Q n c w 14 ls (.int x :: .int i :: .ref a :: st) M = (am_iw n a 1 i ∧ ok d mX11_begins0 n0 Q n c w 15 ls st (sI M a i.toNatClampNeg x)) := ok_r rfl rfl
theorem sX11_begins0_15 : ok d mX11_begins0 n Q n 0 0 15 ls [] M = Q none M := (ok_reV rfl rfl).trans (am_andT ⟨rfl, rfl, rfl⟩)
theorem eX11_begins0 {a0 : Nat} {n : Nat} {M : am_M} {Q : am_Q} : am_big (d + 1) mX11_begins0 [.ref a0] n M Q = ok d mX11_begins0 n Q n 0 0 0 [some (.ref a0)] [] M := rfl
theorem sX11_writes_0 {x : Nat} : ok d mX11_writes n0 Q n c w 0 (some (.ref x) :: ls) st M = ok d mX11_writes n0 Q n c w 1 (some (.ref x) :: ls) (.ref x :: st) M := ok_r rfl rfl
theorem sX11_writes_1 {a : Nat} : ok d mX11_writes n0 Q n c w 1 ls (.ref a :: st) M = (am_ob n a 11 ∧ ok d mX11_writes n0 Q n c w 4 ls (am_rv (gR M a 27) :: st) M) := ok_get (q := (11, 27, 2, true, 1222)) rfl rfl rfl rfl
theorem sX11_writes_4 : ok d mX11_writes n0 Q n c w 4 ls st M = ok d mX11_writes n0 Q n c w 6 ls (.int 43 :: st) M := ok_r rfl (by rw [← bc_43]; rfl)
theorem sX11_writes_6 {a : Nat} {i : Int32} : ok d mX11_writes n0 Q n c w 6 ls (.int i :: .ref a :: st) M = (am_in n M a 1 i ∧ ok d mX11_writes n0 Q n c w 7 ls (.int (gI M a i.toNatClampNeg) :: st) M) := ok_r rfl rfl
theorem sX11_writes_7 : ok d mX11_writes n0 Q n c w 7 ls st M = ok d mX11_writes n0 Q n c w 9 ls (.int 60 :: st) M := ok_r rfl (by rw [← bc_60]; rfl)
theorem sX11_writes_9 {x z : Int32} : ok d mX11_writes n0 Q n c w 9 ls (.int z :: .int x :: st) M = ((¬ x = z → ok d mX11_writes n0 Q n c w 57 ls st M) ∧ (¬ (¬ x = z) → ok d mX11_writes n0 Q n c w 12 ls st M)) := ok_ico (pc := 9) (off := 48) (k := .ne) rfl 57 (by decide)
theorem sX11_writes_12 : ok d mX11_writes n0 Q n c w 12 ls st M = ok d mX11_writes n0 Q n c w 13 ls (.int 1 :: st) M := ok_r rfl (by rw [← ic_1]; rfl)
theorem sX11_writes_13 {l0 l1 l2 : Option Value} {x : Int32} : ok d mX11_writes n0 Q n c w 13 (l0 :: l1 :: l2 :: ls) (.int x :: st) M = ok d mX11_writes n0 Q n c w 14 (l0 :: am_kl l1 :: some (.int x) :: ls) st M := ok_ist (k := 2) rfl (Or.inr ⟨_, rfl, rfl⟩) (by decide) rfl rfl
theorem sX11_writes_14 {l0 l1 : Option Value} {x : Int32} : ok d mX11_writes n0 Q n c w 14 (l0 :: l1 :: some (.int x) :: ls) st M = ok d mX11_writes n0 Q n c w 15 (l0 :: l1 :: some (.int x) :: ls) (.int x :: st) M := ok_r rfl rfl
theorem sX11_writes_15 : ok d mX11_writes n0 Q n c w 15 ls st M = ok d mX11_writes n0 Q n c w 17 ls (.int 118 :: st) M := ok_r rfl (by rw [← bc_118]; rfl)
theorem sX11_writes_17 {x z : Int32} : ok d mX11_writes n0 Q n c w 17 ls (.int z :: .int x :: st) M = ((z < x → ok d mX11_writes n0 Q n c w 46 ls st M) ∧ (¬ (z < x) → ok d mX11_writes n0 Q n c w 20 ls st M)) := ok_ico (pc := 17) (off := 29) (k := .gt) rfl 46 (by decide)
theorem sX11_writes_20 {x : Nat} : ok d mX11_writes n0 Q n c w 20 (some (.ref x) :: ls) st M = ok d mX11_writes n0 Q n c w 21 (some (.ref x) :: ls) (.ref x :: st) M := ok_r rfl rfl
theorem sX11_writes_21 {a : Nat} : ok d mX11_writes n0 Q n c w 21 ls (.ref a :: st) M = (am_ob n a 11 ∧ ok d mX11_writes n0 Q n c w 24 ls (am_rv (gR M a 27) :: st) M) := ok_get (q := (11, 27, 2, true, 1222)) rfl rfl rfl rfl
theorem sX11_writes_24 : ok d mX11_writes n0 Q n c w 24 ls st M = ok d mX11_writes n0 Q n c w 26 ls (.int 43 :: st) M := ok_r rfl (by rw [← bc_43]; rfl)
theorem sX11_writes_26 {l0 l1 : Option Value} {x : Int32} : ok d mX11_writes n0 Q n c w 26 (l0 :: l1 :: some (.int x) :: ls) st M = ok d mX11_writes n0 Q n c w 27 (l0 :: l1 :: some (.int x) :: ls) (.int x :: st) M := ok_r rfl rfl
theorem sX11_writes_27 {x z : Int32} : ok d mX11_writes n0 Q n c w 27 ls (.int z :: .int x :: st) M = ok d mX11_writes n0 Q n c w 28 ls (.int (x + z) :: st) M := ok_r rfl rfl
theorem sX11_writes_28 {x : Nat} : ok d mX11_writes n0 Q n c w 28 (some (.ref x) :: ls) st M = ok d mX11_writes n0 Q n c w 29 (some (.ref x) :: ls) (.ref x :: st) M := ok_r rfl rfl
theorem sX11_writes_29 {a : Nat} : ok d mX11_writes n0 Q n c w 29 ls (.ref a :: st) M = (am_ob n a 11 ∧ ok d mX11_writes n0 Q n c w 32 ls (am_rv (gR M a 27) :: st) M) := ok_get (q := (11, 27, 2, true, 1222)) rfl rfl rfl rfl
theorem sX11_writes_32 : ok d mX11_writes n0 Q n c w 32 ls st M = ok d mX11_writes n0 Q n c w 34 ls (.int 43 :: st) M := ok_r rfl (by rw [← bc_43]; rfl)
theorem sX11_writes_34 {l0 l1 : Option Value} {x : Int32} : ok d mX11_writes n0 Q n c w 34 (l0 :: l1 :: some (.int x) :: ls) st M = ok d mX11_writes n0 Q n c w 35 (l0 :: l1 :: some (.int x) :: ls) (.int x :: st) M := ok_r rfl rfl
theorem sX11_writes_35 {x z : Int32} : ok d mX11_writes n0 Q n c w 35 ls (.int z :: .int x :: st) M = ok d mX11_writes n0 Q n c w 36 ls (.int (x + z) :: st) M := ok_r rfl rfl
theorem sX11_writes_36 : ok d mX11_writes n0 Q n c w 36 ls st M = ok d mX11_writes n0 Q n c w 37 ls (.int 2 :: st) M := ok_r rfl (by rw [← ic_2]; rfl)
theorem sX11_writes_37 {x z : Int32} : ok d mX11_writes n0 Q n c w 37 ls (.int z :: .int x :: st) M = ok d mX11_writes n0 Q n c w 38 ls (.int (x + z) :: st) M := ok_r rfl rfl
theorem sX11_writes_38 {a : Nat} {i : Int32} : ok d mX11_writes n0 Q n c w 38 ls (.int i :: .ref a :: st) M = (am_in n M a 1 i ∧ ok d mX11_writes n0 Q n c w 39 ls (.int (gI M a i.toNatClampNeg) :: st) M) := ok_r rfl rfl
theorem sX11_writes_39 {a : Nat} {i x : Int32} : ok d mX11_writes n0 Q n c w 39 ls (.int x :: .int i :: .ref a :: st) M = (am_iw n a 1 i ∧ ok d mX11_writes n0 Q n c w 40 ls st (sI M a i.toNatClampNeg x)) := ok_r rfl rfl
theorem sX11_writes_40 {l0 l1 : Option Value} {x : Int32} : ok d mX11_writes n0 Q n c w 40 (l0 :: l1 :: some (.int x) :: ls) st M = ok d mX11_writes n0 Q n c w 43 (l0 :: am_kl l1 :: some (.int (x + 1)) :: ls) st M := ok_inc (k := 2) rfl rfl ic_1 (by decide) rfl rfl
theorem sX11_writes_43 : ok d mX11_writes n0 Q n c w 43 ls st M = ok d mX11_writes n0 Q n c w 14 ls st M := ok_got (pc := 43) (off := (-29)) rfl 14 (by decide)
theorem sX11_writes_46 {x : Nat} : ok d mX11_writes n0 Q n c w 46 (some (.ref x) :: ls) st M = ok d mX11_writes n0 Q n c w 47 (some (.ref x) :: ls) (.ref x :: st) M := ok_r rfl rfl
theorem sX11_writes_47 {a : Nat} : ok d mX11_writes n0 Q n c w 47 ls (.ref a :: st) M = (am_ob n a 11 ∧ ok d mX11_writes n0 Q n c w 50 ls (am_rv (gR M a 27) :: st) M) := ok_get (q := (11, 27, 2, true, 1222)) rfl rfl rfl rfl
theorem sX11_writes_50 : ok d mX11_writes n0 Q n c w 50 ls st M = ok d mX11_writes n0 Q n c w 52 ls (.int 43 :: st) M := ok_r rfl (by rw [← bc_43]; rfl)
theorem sX11_writes_52 {x : Nat} {z : Int32} : ok d mX11_writes n0 Q n c w 52 ls (.int z :: .ref x :: st) M = ok d mX11_writes n0 Q n c w 53 ls (.int z :: .ref x :: .int z :: .ref x :: st) M := ok_r rfl rfl
theorem sX11_writes_53 {a : Nat} {i : Int32} : ok d mX11_writes n0 Q n c w 53 ls (.int i :: .ref a :: st) M = (am_in n M a 1 i ∧ ok d mX11_writes n0 Q n c w 54 ls (.int (gI M a i.toNatClampNeg) :: st) M) := ok_r rfl rfl
theorem sX11_writes_54 : ok d mX11_writes n0 Q n c w 54 ls st M = ok d mX11_writes n0 Q n c w 55 ls (.int 1 :: st) M := ok_r rfl (by rw [← ic_1]; rfl)
theorem sX11_writes_55 {x z : Int32} : ok d mX11_writes n0 Q n c w 55 ls (.int z :: .int x :: st) M = ok d mX11_writes n0 Q n c w 56 ls (.int (x - z) :: st) M := ok_r rfl rfl
theorem sX11_writes_56 {a : Nat} {i x : Int32} : ok d mX11_writes n0 Q n c w 56 ls (.int x :: .int i :: .ref a :: st) M = (am_iw n a 1 i ∧ ok d mX11_writes n0 Q n c w 57 ls st (sI M a i.toNatClampNeg x)) := ok_r rfl rfl
theorem sX11_writes_57 {x : Nat} : ok d mX11_writes n0 Q n c w 57 (some (.ref x) :: ls) st M = ok d mX11_writes n0 Q n c w 58 (some (.ref x) :: ls) (.ref x :: st) M := ok_r rfl rfl
theorem sX11_writes_58 {a : Nat} : ok d mX11_writes n0 Q n c w 58 ls (.ref a :: st) M = (am_ob n a 11 ∧ ok d mX11_writes n0 Q n c w 61 ls (am_rv (gR M a 27) :: st) M) := ok_get (q := (11, 27, 2, true, 1222)) rfl rfl rfl rfl
theorem sX11_writes_61 : ok d mX11_writes n0 Q n c w 61 ls st M = ok d mX11_writes n0 Q n c w 63 ls (.int 44 :: st) M := ok_r rfl (by rw [← bc_44]; rfl)
theorem sX11_writes_63 : ok d mX11_writes n0 Q n c w 63 ls st M = ok d mX11_writes n0 Q n c w 64 ls (.int 2 :: st) M := ok_r rfl (by rw [← ic_2]; rfl)
theorem sX11_writes_64 {x : Nat} : ok d mX11_writes n0 Q n c w 64 (some (.ref x) :: ls) st M = ok d mX11_writes n0 Q n c w 65 (some (.ref x) :: ls) (.ref x :: st) M := ok_r rfl rfl
theorem sX11_writes_65 {a : Nat} : ok d mX11_writes n0 Q n c w 65 ls (.ref a :: st) M = (am_ob n a 11 ∧ ok d mX11_writes n0 Q n c w 68 ls (am_rv (gR M a 27) :: st) M) := ok_get (q := (11, 27, 2, true, 1222)) rfl rfl rfl rfl
theorem sX11_writes_68 : ok d mX11_writes n0 Q n c w 68 ls st M = ok d mX11_writes n0 Q n c w 70 ls (.int 43 :: st) M := ok_r rfl (by rw [← bc_43]; rfl)
theorem sX11_writes_70 {a : Nat} {i : Int32} : ok d mX11_writes n0 Q n c w 70 ls (.int i :: .ref a :: st) M = (am_in n M a 1 i ∧ ok d mX11_writes n0 Q n c w 71 ls (.int (gI M a i.toNatClampNeg) :: st) M) := ok_r rfl rfl
theorem sX11_writes_71 {x z : Int32} : ok d mX11_writes n0 Q n c w 71 ls (.int z :: .int x :: st) M = ok d mX11_writes n0 Q n c w 72 ls (.int (x * z) :: st) M := ok_r rfl rfl
theorem sX11_writes_72 {x z : Int32} : ok d mX11_writes n0 Q n c w 72 ls (.int z :: .int x :: st) M = ok d mX11_writes n0 Q n c w 73 ls (.int (x + z) :: st) M := ok_r rfl rfl
theorem sX11_writes_73 {l0 : Option Value} {x : Int32} : ok d mX11_writes n0 Q n c w 73 (l0 :: some (.int x) :: ls) st M = ok d mX11_writes n0 Q n c w 74 (l0 :: some (.int x) :: ls) (.int x :: st) M := ok_r rfl rfl
theorem sX11_writes_74 {a : Nat} {i x : Int32} : ok d mX11_writes n0 Q n c w 74 ls (.int x :: .int i :: .ref a :: st) M = (am_iw n a 1 i ∧ ok d mX11_writes n0 Q n c w 75 ls st (sI M a i.toNatClampNeg x)) := ok_r rfl rfl
theorem sX11_writes_75 {x : Nat} : ok d mX11_writes n0 Q n c w 75 (some (.ref x) :: ls) st M = ok d mX11_writes n0 Q n c w 76 (some (.ref x) :: ls) (.ref x :: st) M := ok_r rfl rfl
theorem sX11_writes_76 {a : Nat} : ok d mX11_writes n0 Q n c w 76 ls (.ref a :: st) M = (am_ob n a 11 ∧ ok d mX11_writes n0 Q n c w 79 ls (am_rv (gR M a 27) :: st) M) := ok_get (q := (11, 27, 2, true, 1222)) rfl rfl rfl rfl
theorem sX11_writes_79 : ok d mX11_writes n0 Q n c w 79 ls st M = ok d mX11_writes n0 Q n c w 81 ls (.int 45 :: st) M := ok_r rfl (by rw [← bc_45]; rfl)
theorem sX11_writes_81 : ok d mX11_writes n0 Q n c w 81 ls st M = ok d mX11_writes n0 Q n c w 82 ls (.int 2 :: st) M := ok_r rfl (by rw [← ic_2]; rfl)
theorem sX11_writes_82 {x : Nat} : ok d mX11_writes n0 Q n c w 82 (some (.ref x) :: ls) st M = ok d mX11_writes n0 Q n c w 83 (some (.ref x) :: ls) (.ref x :: st) M := ok_r rfl rfl
theorem sX11_writes_83 {a : Nat} : ok d mX11_writes n0 Q n c w 83 ls (.ref a :: st) M = (am_ob n a 11 ∧ ok d mX11_writes n0 Q n c w 86 ls (am_rv (gR M a 27) :: st) M) := ok_get (q := (11, 27, 2, true, 1222)) rfl rfl rfl rfl
theorem sX11_writes_86 : ok d mX11_writes n0 Q n c w 86 ls st M = ok d mX11_writes n0 Q n c w 88 ls (.int 43 :: st) M := ok_r rfl (by rw [← bc_43]; rfl)
theorem sX11_writes_88 {a : Nat} {i : Int32} : ok d mX11_writes n0 Q n c w 88 ls (.int i :: .ref a :: st) M = (am_in n M a 1 i ∧ ok d mX11_writes n0 Q n c w 89 ls (.int (gI M a i.toNatClampNeg) :: st) M) := ok_r rfl rfl
theorem sX11_writes_89 {x z : Int32} : ok d mX11_writes n0 Q n c w 89 ls (.int z :: .int x :: st) M = ok d mX11_writes n0 Q n c w 90 ls (.int (x * z) :: st) M := ok_r rfl rfl
theorem sX11_writes_90 {x z : Int32} : ok d mX11_writes n0 Q n c w 90 ls (.int z :: .int x :: st) M = ok d mX11_writes n0 Q n c w 91 ls (.int (x + z) :: st) M := ok_r rfl rfl
theorem sX11_writes_91 {x : Nat} : ok d mX11_writes n0 Q n c w 91 (some (.ref x) :: ls) st M = ok d mX11_writes n0 Q n c w 92 (some (.ref x) :: ls) (.ref x :: st) M := ok_r rfl rfl
theorem sX11_writes_92 {a : Nat} : ok d mX11_writes n0 Q n c w 92 ls (.ref a :: st) M = (am_ob n a 11 ∧ ok d mX11_writes n0 Q n c w 95 ls (am_rv (gR M a 27) :: st) M) := ok_get (q := (11, 27, 2, true, 1222)) rfl rfl rfl rfl
theorem sX11_writes_95 : ok d mX11_writes n0 Q n c w 95 ls st M = ok d mX11_writes n0 Q n c w 97 ls (.int 36 :: st) M := ok_r rfl (by rw [← bc_36]; rfl)
theorem sX11_writes_97 {a : Nat} {i : Int32} : ok d mX11_writes n0 Q n c w 97 ls (.int i :: .ref a :: st) M = (am_in n M a 1 i ∧ ok d mX11_writes n0 Q n c w 98 ls (.int (gI M a i.toNatClampNeg) :: st) M) := ok_r rfl rfl
theorem sX11_writes_98 {a : Nat} {i x : Int32} : ok d mX11_writes n0 Q n c w 98 ls (.int x :: .int i :: .ref a :: st) M = (am_iw n a 1 i ∧ ok d mX11_writes n0 Q n c w 99 ls st (sI M a i.toNatClampNeg x)) := ok_r rfl rfl
theorem sX11_writes_99 {x : Nat} : ok d mX11_writes n0 Q n c w 99 (some (.ref x) :: ls) st M = ok d mX11_writes n0 Q n c w 100 (some (.ref x) :: ls) (.ref x :: st) M := ok_r rfl rfl
theorem sX11_writes_100 {a : Nat} : ok d mX11_writes n0 Q n c w 100 ls (.ref a :: st) M = (am_ob n a 11 ∧ ok d mX11_writes n0 Q n c w 103 ls (am_rv (gR M a 27) :: st) M) := ok_get (q := (11, 27, 2, true, 1222)) rfl rfl rfl rfl
theorem sX11_writes_103 : ok d mX11_writes n0 Q n c w 103 ls st M = ok d mX11_writes n0 Q n c w 105 ls (.int 43 :: st) M := ok_r rfl (by rw [← bc_43]; rfl)
theorem sX11_writes_105 {x : Nat} {z : Int32} : ok d mX11_writes n0 Q n c w 105 ls (.int z :: .ref x :: st) M = ok d mX11_writes n0 Q n c w 106 ls (.int z :: .ref x :: .int z :: .ref x :: st) M := ok_r rfl rfl
theorem sX11_writes_106 {a : Nat} {i : Int32} : ok d mX11_writes n0 Q n c w 106 ls (.int i :: .ref a :: st) M = (am_in n M a 1 i ∧ ok d mX11_writes n0 Q n c w 107 ls (.int (gI M a i.toNatClampNeg) :: st) M) := ok_r rfl rfl
theorem sX11_writes_107 : ok d mX11_writes n0 Q n c w 107 ls st M = ok d mX11_writes n0 Q n c w 108 ls (.int 1 :: st) M := ok_r rfl (by rw [← ic_1]; rfl)
theorem sX11_writes_108 {x z : Int32} : ok d mX11_writes n0 Q n c w 108 ls (.int z :: .int x :: st) M = ok d mX11_writes n0 Q n c w 109 ls (.int (x + z) :: st) M := ok_r rfl rfl
theorem sX11_writes_109 {a : Nat} {i x : Int32} : ok d mX11_writes n0 Q n c w 109 ls (.int x :: .int i :: .ref a :: st) M = (am_iw n a 1 i ∧ ok d mX11_writes n0 Q n c w 110 ls st (sI M a i.toNatClampNeg x)) := ok_r rfl rfl
theorem sX11_writes_110 : ok d mX11_writes n Q n 0 0 110 ls [] M = Q none M := (ok_reV rfl rfl).trans (am_andT ⟨rfl, rfl, rfl⟩)
theorem eX11_writes {a0 : Nat} {a1 : Int32} {n : Nat} {M : am_M} {Q : am_Q} : am_big (d + 1) mX11_writes [.ref a0, .int a1] n M Q = ok d mX11_writes n Q n 0 0 0 [some (.ref a0), some (.int a1), none] [] M := rfl
theorem sX11_isLate_0 {x : Nat} : ok d mX11_isLate n0 Q n c w 0 (some (.ref x) :: ls) st M = ok d mX11_isLate n0 Q n c w 1 (some (.ref x) :: ls) (.ref x :: st) M := ok_r rfl rfl
theorem sX11_isLate_1 {a : Nat} : ok d mX11_isLate n0 Q n c w 1 ls (.ref a :: st) M = (am_ob n a 11 ∧ ok d mX11_isLate n0 Q n c w 4 ls (.int (gI M a 23) :: st) M) := ok_get (q := (11, 23, 0, false, 1218)) rfl rfl rfl rfl
theorem sX11_isLate_4 {x : Int32} : ok d mX11_isLate n0 Q n c w 4 ls (.int x :: st) M = ((x = 0 → ok d mX11_isLate n0 Q n c w 20 ls st M) ∧ (¬ (x = 0) → ok d mX11_isLate n0 Q n c w 7 ls st M)) := ok_ifc (pc := 4) (off := 16) (k := .eq) rfl 20 (by decide)
theorem sX11_isLate_7 {x : Nat} : ok d mX11_isLate n0 Q n c w 7 (some (.ref x) :: ls) st M = ok d mX11_isLate n0 Q n c w 8 (some (.ref x) :: ls) (.ref x :: st) M := ok_r rfl rfl
theorem sX11_isLate_8 {a : Nat} : ok d mX11_isLate n0 Q n c w 8 ls (.ref a :: st) M = (am_ob n a 11 ∧ ok d mX11_isLate n0 Q n c w 11 ls (am_rv (gR M a 27) :: st) M) := ok_get (q := (11, 27, 2, true, 1222)) rfl rfl rfl rfl
theorem sX11_isLate_11 : ok d mX11_isLate n0 Q n c w 11 ls st M = ok d mX11_isLate n0 Q n c w 13 ls (.int 42 :: st) M := ok_r rfl (by rw [← bc_42]; rfl)
theorem sX11_isLate_13 {a : Nat} {i : Int32} : ok d mX11_isLate n0 Q n c w 13 ls (.int i :: .ref a :: st) M = (am_in n M a 1 i ∧ ok d mX11_isLate n0 Q n c w 14 ls (.int (gI M a i.toNatClampNeg) :: st) M) := ok_r rfl rfl
theorem sX11_isLate_14 : ok d mX11_isLate n0 Q n c w 14 ls st M = ok d mX11_isLate n0 Q n c w 17 ls (.int 9999 :: st) M := ok_r rfl (by rw [← sc_9999]; rfl)
theorem sX11_isLate_17 {x z : Int32} : ok d mX11_isLate n0 Q n c w 17 ls (.int z :: .int x :: st) M = ((¬ x = z → ok d mX11_isLate n0 Q n c w 24 ls st M) ∧ (¬ (¬ x = z) → ok d mX11_isLate n0 Q n c w 20 ls st M)) := ok_ico (pc := 17) (off := 7) (k := .ne) rfl 24 (by decide)
theorem sX11_isLate_20 : ok d mX11_isLate n0 Q n c w 20 ls st M = ok d mX11_isLate n0 Q n c w 21 ls (.int 1 :: st) M := ok_r rfl (by rw [← ic_1]; rfl)
theorem sX11_isLate_21 : ok d mX11_isLate n0 Q n c w 21 ls st M = ok d mX11_isLate n0 Q n c w 25 ls st M := ok_got (pc := 21) (off := 4) rfl 25 (by decide)
theorem sX11_isLate_24 : ok d mX11_isLate n0 Q n c w 24 ls st M = ok d mX11_isLate n0 Q n c w 25 ls (.int 0 :: st) M := ok_r rfl (by rw [← ic_0]; rfl)
theorem sX11_isLate_25 {x : Int32} : ok d mX11_isLate n Q n 0 0 25 ls [.int x] M = ((x = 0 ∨ x = 1) ∧ Q (some (.int x)) M) := ok_reZ rfl rfl ⟨rfl, rfl, rfl⟩
theorem eX11_isLate {a0 : Nat} {n : Nat} {M : am_M} {Q : am_Q} : am_big (d + 1) mX11_isLate [.ref a0] n M Q = ok d mX11_isLate n Q n 0 0 0 [some (.ref a0)] [] M := rfl
theorem sX11_actMake_0 {x : Nat} : ok d mX11_actMake n0 Q n c w 0 (some (.ref x) :: ls) st M = ok d mX11_actMake n0 Q n c w 1 (some (.ref x) :: ls) (.ref x :: st) M := ok_r rfl rfl
theorem sX11_actMake_1 {a : Nat} : ok d mX11_actMake n0 Q n c w 1 ls (.ref a :: st) M = (am_ob n a 11 ∧ ok d mX11_actMake n0 Q n c w 4 ls (am_rv (gR M a 27) :: st) M) := ok_get (q := (11, 27, 2, true, 1222)) rfl rfl rfl rfl
theorem sX11_actMake_4 {l0 : Option Value} {x : Int32} : ok d mX11_actMake n0 Q n c w 4 (l0 :: some (.int x) :: ls) st M = ok d mX11_actMake n0 Q n c w 5 (l0 :: some (.int x) :: ls) (.int x :: st) M := ok_r rfl rfl
theorem sX11_actMake_5 {l0 l1 : Option Value} {x : Int32} : ok d mX11_actMake n0 Q n c w 5 (l0 :: l1 :: some (.int x) :: ls) st M = ok d mX11_actMake n0 Q n c w 6 (l0 :: l1 :: some (.int x) :: ls) (.int x :: st) M := ok_r rfl rfl
theorem sX11_actMake_6 {l0 l1 l2 : Option Value} {x : Int32} : ok d mX11_actMake n0 Q n c w 6 (l0 :: l1 :: l2 :: some (.int x) :: ls) st M = ok d mX11_actMake n0 Q n c w 7 (l0 :: l1 :: l2 :: some (.int x) :: ls) (.int x :: st) M := ok_r rfl rfl
theorem sX11_actMake_7 {a0 : Nat} {a1 : Int32} {a2 : Int32} {a3 : Int32} : ok d mX11_actMake n0 Q n 0 0 7 ls [.int a3, .int a2, .int a1, .ref a0] M = am_big d mX11_does [.ref a0, .int a1, .int a2, .int a3] n M (kV fun M' => ok d mX11_actMake n0 Q n 0 0 10 ls [] M') := ok_sta (y := mX11_actMake) (y' := mX11_does) (pc := 7) (k := 357) (ps := [1640, 1641, 110, 1642]) (c := 0) (w := 0) (st := [.int a3, .int a2, .int a1, .ref a0]) (as := [.ref a0, .int a1, .int a2, .int a3]) (rest := []) (kd := 1) rfl rfl (by decide) ⟨Nat.le_of_ble_eq_true rfl, Nat.le_of_ble_eq_true rfl, Nat.le_of_ble_eq_true rfl, Nat.le_of_ble_eq_true rfl, Nat.le_of_ble_eq_true rfl⟩ rfl rfl (am_contV rfl)
theorem sX11_actMake_10 {x : Nat} : ok d mX11_actMake n0 Q n c w 10 (some (.ref x) :: ls) st M = ok d mX11_actMake n0 Q n c w 11 (some (.ref x) :: ls) (.ref x :: st) M := ok_r rfl rfl
theorem sX11_actMake_11 {l0 : Option Value} {x : Int32} : ok d mX11_actMake n0 Q n c w 11 (l0 :: some (.int x) :: ls) st M = ok d mX11_actMake n0 Q n c w 12 (l0 :: some (.int x) :: ls) (.int x :: st) M := ok_r rfl rfl
theorem sX11_actMake_12 {b : Nat} {a0 : Int32} : ok d mX11_actMake n0 Q n 0 0 12 ls [.int a0, .ref b] M = (am_ob n b 11 ∧ am_big d mX11_writes [.ref b, .int a0] n M (kV fun M' => ok d mX11_actMake n0 Q n 0 0 15 ls [] M')) := ok_vir (y := mX11_actMake) (y' := mX11_writes) (pc := 12) (k := 361) (ps := [1643, 1645, 73, 110, 1646]) (c := 0) (w := 0) (st := [.int a0, .ref b]) (as := [.ref b, .int a0]) (rest := []) (b := b) rfl rfl rfl ⟨Nat.le_of_ble_eq_true rfl, Nat.le_of_ble_eq_true rfl, Nat.le_of_ble_eq_true rfl, Nat.le_of_ble_eq_true rfl, Nat.le_of_ble_eq_true rfl⟩ rfl rfl (am_contV rfl)
theorem sX11_actMake_15 : ok d mX11_actMake n Q n 0 0 15 ls [] M = Q none M := (ok_reV rfl rfl).trans (am_andT ⟨rfl, rfl, rfl⟩)
theorem eX11_actMake {a0 : Nat} {a1 : Int32} {a2 : Int32} {a3 : Int32} {n : Nat} {M : am_M} {Q : am_Q} : am_big (d + 1) mX11_actMake [.ref a0, .int a1, .int a2, .int a3] n M Q = ok d mX11_actMake n Q n 0 0 0 [some (.ref a0), some (.int a1), some (.int a2), some (.int a3)] [] M := rfl
theorem sX11_actTake_0 {x : Nat} : ok d mX11_actTake n0 Q n c w 0 (some (.ref x) :: ls) st M = ok d mX11_actTake n0 Q n c w 1 (some (.ref x) :: ls) (.ref x :: st) M := ok_r rfl rfl
theorem sX11_actTake_1 {a : Nat} : ok d mX11_actTake n0 Q n c w 1 ls (.ref a :: st) M = (am_ob n a 11 ∧ ok d mX11_actTake n0 Q n c w 4 ls (am_rv (gR M a 27) :: st) M) := ok_get (q := (11, 27, 2, true, 1222)) rfl rfl rfl rfl
theorem sX11_actTake_4 : ok d mX11_actTake n0 Q n c w 4 ls st M = ok d mX11_actTake n0 Q n c w 5 ls (.int 3 :: st) M := ok_r rfl (by rw [← ic_3]; rfl)
theorem sX11_actTake_5 {l0 : Option Value} {x : Int32} : ok d mX11_actTake n0 Q n c w 5 (l0 :: some (.int x) :: ls) st M = ok d mX11_actTake n0 Q n c w 6 (l0 :: some (.int x) :: ls) (.int x :: st) M := ok_r rfl rfl
theorem sX11_actTake_6 {x z : Int32} : ok d mX11_actTake n0 Q n c w 6 ls (.int z :: .int x :: st) M = ok d mX11_actTake n0 Q n c w 7 ls (.int (x * z) :: st) M := ok_r rfl rfl
theorem sX11_actTake_7 {a : Nat} {i : Int32} : ok d mX11_actTake n0 Q n c w 7 ls (.int i :: .ref a :: st) M = (am_in n M a 1 i ∧ ok d mX11_actTake n0 Q n c w 8 ls (.int (gI M a i.toNatClampNeg) :: st) M) := ok_r rfl rfl
theorem sX11_actTake_8 {l0 l1 l2 : Option Value} {x : Int32} : ok d mX11_actTake n0 Q n c w 8 (l0 :: l1 :: l2 :: ls) (.int x :: st) M = ok d mX11_actTake n0 Q n c w 9 (l0 :: am_kl l1 :: some (.int x) :: ls) st M := ok_ist (k := 2) rfl (Or.inr ⟨_, rfl, rfl⟩) (by decide) rfl rfl
theorem sX11_actTake_9 {x : Nat} : ok d mX11_actTake n0 Q n c w 9 (some (.ref x) :: ls) st M = ok d mX11_actTake n0 Q n c w 10 (some (.ref x) :: ls) (.ref x :: st) M := ok_r rfl rfl
theorem sX11_actTake_10 {a : Nat} : ok d mX11_actTake n0 Q n c w 10 ls (.ref a :: st) M = (am_ob n a 11 ∧ ok d mX11_actTake n0 Q n c w 13 ls (am_rv (gR M a 27) :: st) M) := ok_get (q := (11, 27, 2, true, 1222)) rfl rfl rfl rfl
theorem sX11_actTake_13 {l0 : Option Value} {x : Int32} : ok d mX11_actTake n0 Q n c w 13 (l0 :: some (.int x) :: ls) st M = ok d mX11_actTake n0 Q n c w 14 (l0 :: some (.int x) :: ls) (.int x :: st) M := ok_r rfl rfl
theorem sX11_actTake_14 {a0 : Nat} {a1 : Int32} : ok d mX11_actTake n0 Q n 0 0 14 ls [.int a1, .ref a0] M = am_big d mX11_gone [.ref a0, .int a1] n M (kV fun M' => ok d mX11_actTake n0 Q n 0 0 17 ls [] M') := ok_sta (y := mX11_actTake) (y' := mX11_gone) (pc := 14) (k := 364) (ps := [1662, 1663, 110, 1664]) (c := 0) (w := 0) (st := [.int a1, .ref a0]) (as := [.ref a0, .int a1]) (rest := []) (kd := 1) rfl rfl (by decide) ⟨Nat.le_of_ble_eq_true rfl, Nat.le_of_ble_eq_true rfl, Nat.le_of_ble_eq_true rfl, Nat.le_of_ble_eq_true rfl, Nat.le_of_ble_eq_true rfl⟩ rfl rfl (am_contV rfl)
theorem sX11_actTake_17 : ok d mX11_actTake n0 Q n c w 17 ls st M = ok d mX11_actTake n0 Q n c w 18 ls (.int 0 :: st) M := ok_r rfl (by rw [← ic_0]; rfl)
theorem sX11_actTake_18 {l0 l1 l2 l3 : Option Value} {x : Int32} : ok d mX11_actTake n0 Q n c w 18 (l0 :: l1 :: l2 :: l3 :: ls) (.int x :: st) M = ok d mX11_actTake n0 Q n c w 19 (l0 :: l1 :: am_kl l2 :: some (.int x) :: ls) st M := ok_ist (k := 3) rfl (Or.inr ⟨_, rfl, rfl⟩) (by decide) rfl rfl
theorem sX11_actTake_19 {l0 l1 l2 : Option Value} {x : Int32} : ok d mX11_actTake n0 Q n c w 19 (l0 :: l1 :: l2 :: some (.int x) :: ls) st M = ok d mX11_actTake n0 Q n c w 20 (l0 :: l1 :: l2 :: some (.int x) :: ls) (.int x :: st) M := ok_r rfl rfl
theorem sX11_actTake_20 {x : Nat} : ok d mX11_actTake n0 Q n c w 20 (some (.ref x) :: ls) st M = ok d mX11_actTake n0 Q n c w 21 (some (.ref x) :: ls) (.ref x :: st) M := ok_r rfl rfl
theorem sX11_actTake_21 {a : Nat} : ok d mX11_actTake n0 Q n c w 21 ls (.ref a :: st) M = (am_ob n a 11 ∧ ok d mX11_actTake n0 Q n c w 24 ls (.int (gI M a 23) :: st) M) := ok_get (q := (11, 23, 0, false, 1218)) rfl rfl rfl rfl
theorem sX11_actTake_24 {x z : Int32} : ok d mX11_actTake n0 Q n c w 24 ls (.int z :: .int x :: st) M = ((z ≤ x → ok d mX11_actTake n0 Q n c w 62 ls st M) ∧ (¬ (z ≤ x) → ok d mX11_actTake n0 Q n c w 27 ls st M)) := ok_ico (pc := 24) (off := 38) (k := .ge) rfl 62 (by decide)
theorem sX11_actTake_27 {x : Nat} : ok d mX11_actTake n0 Q n c w 27 (some (.ref x) :: ls) st M = ok d mX11_actTake n0 Q n c w 28 (some (.ref x) :: ls) (.ref x :: st) M := ok_r rfl rfl
theorem sX11_actTake_28 {a : Nat} : ok d mX11_actTake n0 Q n c w 28 ls (.ref a :: st) M = (am_ob n a 11 ∧ ok d mX11_actTake n0 Q n c w 31 ls (am_rv (gR M a 27) :: st) M) := ok_get (q := (11, 27, 2, true, 1222)) rfl rfl rfl rfl
theorem sX11_actTake_31 : ok d mX11_actTake n0 Q n c w 31 ls st M = ok d mX11_actTake n0 Q n c w 33 ls (.int 41 :: st) M := ok_r rfl (by rw [← bc_41]; rfl)
theorem sX11_actTake_33 {a : Nat} {i : Int32} : ok d mX11_actTake n0 Q n c w 33 ls (.int i :: .ref a :: st) M = (am_in n M a 1 i ∧ ok d mX11_actTake n0 Q n c w 34 ls (.int (gI M a i.toNatClampNeg) :: st) M) := ok_r rfl rfl
theorem sX11_actTake_34 {l0 l1 l2 : Option Value} {x : Int32} : ok d mX11_actTake n0 Q n c w 34 (l0 :: l1 :: l2 :: some (.int x) :: ls) st M = ok d mX11_actTake n0 Q n c w 35 (l0 :: l1 :: l2 :: some (.int x) :: ls) (.int x :: st) M := ok_r rfl rfl
theorem sX11_actTake_35 {a0 : Int32} {a1 : Int32} : ok d mX11_actTake n0 Q n 0 0 35 ls [.int a1, .int a0] M = am_big d mX11_has [.int a0, .int a1] n M (kI fun x M' => ok d mX11_actTake n0 Q n 0 0 38 ls (.int x :: []) M') := ok_sta (y := mX11_actTake) (y' := mX11_has) (pc := 35) (k := 264) (ps := [1481, 1482, 110, 1483]) (c := 0) (w := 0) (st := [.int a1, .int a0]) (as := [.int a0, .int a1]) (rest := []) (kd := 1) rfl rfl (by decide) ⟨Nat.le_of_ble_eq_true rfl, Nat.le_of_ble_eq_true rfl, Nat.le_of_ble_eq_true rfl, Nat.le_of_ble_eq_true rfl, Nat.le_of_ble_eq_true rfl⟩ rfl rfl (am_contI (Or.inr rfl) rfl)
theorem sX11_actTake_38 {x : Int32} : ok d mX11_actTake n0 Q n c w 38 ls (.int x :: st) M = ((x = 0 → ok d mX11_actTake n0 Q n c w 56 ls st M) ∧ (¬ (x = 0) → ok d mX11_actTake n0 Q n c w 41 ls st M)) := ok_ifc (pc := 38) (off := 18) (k := .eq) rfl 56 (by decide)
theorem sX11_actTake_41 {x : Nat} : ok d mX11_actTake n0 Q n c w 41 (some (.ref x) :: ls) st M = ok d mX11_actTake n0 Q n c w 42 (some (.ref x) :: ls) (.ref x :: st) M := ok_r rfl rfl
theorem sX11_actTake_42 {a : Nat} : ok d mX11_actTake n0 Q n c w 42 ls (.ref a :: st) M = (am_ob n a 11 ∧ ok d mX11_actTake n0 Q n c w 45 ls (am_rv (gR M a 27) :: st) M) := ok_get (q := (11, 27, 2, true, 1222)) rfl rfl rfl rfl
theorem sX11_actTake_45 : ok d mX11_actTake n0 Q n c w 45 ls st M = ok d mX11_actTake n0 Q n c w 47 ls (.int 37 :: st) M := ok_r rfl (by rw [← bc_37]; rfl)
theorem sX11_actTake_47 {l0 l1 l2 : Option Value} {x : Int32} : ok d mX11_actTake n0 Q n c w 47 (l0 :: l1 :: l2 :: some (.int x) :: ls) st M = ok d mX11_actTake n0 Q n c w 48 (l0 :: l1 :: l2 :: some (.int x) :: ls) (.int x :: st) M := ok_r rfl rfl
theorem sX11_actTake_48 {x z : Int32} : ok d mX11_actTake n0 Q n c w 48 ls (.int z :: .int x :: st) M = ok d mX11_actTake n0 Q n c w 49 ls (.int (x + z) :: st) M := ok_r rfl rfl
theorem sX11_actTake_49 {x : Nat} {z : Int32} : ok d mX11_actTake n0 Q n c w 49 ls (.int z :: .ref x :: st) M = ok d mX11_actTake n0 Q n c w 50 ls (.int z :: .ref x :: .int z :: .ref x :: st) M := ok_r rfl rfl
theorem sX11_actTake_50 {a : Nat} {i : Int32} : ok d mX11_actTake n0 Q n c w 50 ls (.int i :: .ref a :: st) M = (am_in n M a 1 i ∧ ok d mX11_actTake n0 Q n c w 51 ls (.int (gI M a i.toNatClampNeg) :: st) M) := ok_r rfl rfl
theorem sX11_actTake_51 : ok d mX11_actTake n0 Q n c w 51 ls st M = ok d mX11_actTake n0 Q n c w 52 ls (.int 1 :: st) M := ok_r rfl (by rw [← ic_1]; rfl)
theorem sX11_actTake_52 {l0 l1 : Option Value} {x : Int32} : ok d mX11_actTake n0 Q n c w 52 (l0 :: l1 :: some (.int x) :: ls) st M = ok d mX11_actTake n0 Q n c w 53 (l0 :: l1 :: some (.int x) :: ls) (.int x :: st) M := ok_r rfl rfl
theorem sX11_actTake_53 {x z : Int32} : ok d mX11_actTake n0 Q n c w 53 ls (.int z :: .int x :: st) M = ok d mX11_actTake n0 Q n c w 54 ls (.int (x <<< (z &&& 31)) :: st) M := ok_r rfl rfl
theorem sX11_actTake_54 {x z : Int32} : ok d mX11_actTake n0 Q n c w 54 ls (.int z :: .int x :: st) M = ok d mX11_actTake n0 Q n c w 55 ls (.int (x ||| z) :: st) M := ok_r rfl rfl
theorem sX11_actTake_55 {a : Nat} {i x : Int32} : ok d mX11_actTake n0 Q n c w 55 ls (.int x :: .int i :: .ref a :: st) M = (am_iw n a 1 i ∧ ok d mX11_actTake n0 Q n c w 56 ls st (sI M a i.toNatClampNeg x)) := ok_r rfl rfl
theorem sX11_actTake_56 {l0 l1 l2 : Option Value} {x : Int32} : ok d mX11_actTake n0 Q n c w 56 (l0 :: l1 :: l2 :: some (.int x) :: ls) st M = ok d mX11_actTake n0 Q n c w 59 (l0 :: l1 :: am_kl l2 :: some (.int (x + 1)) :: ls) st M := ok_inc (k := 3) rfl rfl ic_1 (by decide) rfl rfl
theorem sX11_actTake_59 : ok d mX11_actTake n0 Q n c w 59 ls st M = ok d mX11_actTake n0 Q n c w 19 ls st M := ok_got (pc := 59) (off := (-40)) rfl 19 (by decide)
theorem sX11_actTake_62 {x : Nat} : ok d mX11_actTake n0 Q n c w 62 (some (.ref x) :: ls) st M = ok d mX11_actTake n0 Q n c w 63 (some (.ref x) :: ls) (.ref x :: st) M := ok_r rfl rfl
theorem sX11_actTake_63 : ok d mX11_actTake n0 Q n c w 63 ls st M = ok d mX11_actTake n0 Q n c w 64 ls (.int 5 :: st) M := ok_r rfl (by rw [← ic_5]; rfl)
theorem sX11_actTake_64 {l0 l1 : Option Value} {x : Int32} : ok d mX11_actTake n0 Q n c w 64 (l0 :: l1 :: some (.int x) :: ls) st M = ok d mX11_actTake n0 Q n c w 65 (l0 :: l1 :: some (.int x) :: ls) (.int x :: st) M := ok_r rfl rfl
theorem sX11_actTake_65 {x z : Int32} : ok d mX11_actTake n0 Q n c w 65 ls (.int z :: .int x :: st) M = ok d mX11_actTake n0 Q n c w 66 ls (.int (x + z) :: st) M := ok_r rfl rfl
theorem sX11_actTake_66 {b : Nat} {a0 : Int32} : ok d mX11_actTake n0 Q n 0 0 66 ls [.int a0, .ref b] M = (am_ob n b 11 ∧ am_big d mX11_writes [.ref b, .int a0] n M (kV fun M' => ok d mX11_actTake n0 Q n 0 0 69 ls [] M')) := ok_vir (y := mX11_actTake) (y' := mX11_writes) (pc := 66) (k := 361) (ps := [1643, 1645, 73, 110, 1646]) (c := 0) (w := 0) (st := [.int a0, .ref b]) (as := [.ref b, .int a0]) (rest := []) (b := b) rfl rfl rfl ⟨Nat.le_of_ble_eq_true rfl, Nat.le_of_ble_eq_true rfl, Nat.le_of_ble_eq_true rfl, Nat.le_of_ble_eq_true rfl, Nat.le_of_ble_eq_true rfl⟩ rfl rfl (am_contV rfl)
theorem sX11_actTake_69 : ok d mX11_actTake n Q n 0 0 69 ls [] M = Q none M := (ok_reV rfl rfl).trans (am_andT ⟨rfl, rfl, rfl⟩)
theorem eX11_actTake {a0 : Nat} {a1 : Int32} {n : Nat} {M : am_M} {Q : am_Q} : am_big (d + 1) mX11_actTake [.ref a0, .int a1] n M Q = ok d mX11_actTake n Q n 0 0 0 [some (.ref a0), some (.int a1), none, none] [] M := rfl
theorem sX11_canTake_0 {l0 : Option Value} {x : Int32} : ok d mX11_canTake n0 Q n c w 0 (l0 :: some (.int x) :: ls) st M = ok d mX11_canTake n0 Q n c w 1 (l0 :: some (.int x) :: ls) (.int x :: st) M := ok_r rfl rfl
theorem sX11_canTake_1 : ok d mX11_canTake n0 Q n c w 1 ls st M = ok d mX11_canTake n0 Q n c w 2 ls (.int 1 :: st) M := ok_r rfl (by rw [← ic_1]; rfl)
theorem sX11_canTake_2 {x z : Int32} : ok d mX11_canTake n0 Q n c w 2 ls (.int z :: .int x :: st) M = ok d mX11_canTake n0 Q n c w 3 ls (.int (x + z) :: st) M := ok_r rfl rfl
theorem sX11_canTake_3 {l0 l1 l2 : Option Value} {x : Int32} : ok d mX11_canTake n0 Q n c w 3 (l0 :: l1 :: l2 :: ls) (.int x :: st) M = ok d mX11_canTake n0 Q n c w 4 (l0 :: am_kl l1 :: some (.int x) :: ls) st M := ok_ist (k := 2) rfl (Or.inr ⟨_, rfl, rfl⟩) (by decide) rfl rfl
theorem sX11_canTake_4 {l0 l1 : Option Value} {x : Int32} : ok d mX11_canTake n0 Q n c w 4 (l0 :: l1 :: some (.int x) :: ls) st M = ok d mX11_canTake n0 Q n c w 5 (l0 :: l1 :: some (.int x) :: ls) (.int x :: st) M := ok_r rfl rfl
theorem sX11_canTake_5 {x : Nat} : ok d mX11_canTake n0 Q n c w 5 (some (.ref x) :: ls) st M = ok d mX11_canTake n0 Q n c w 6 (some (.ref x) :: ls) (.ref x :: st) M := ok_r rfl rfl
theorem sX11_canTake_6 {a : Nat} : ok d mX11_canTake n0 Q n c w 6 ls (.ref a :: st) M = (am_ob n a 11 ∧ ok d mX11_canTake n0 Q n c w 9 ls (am_rv (gR M a 27) :: st) M) := ok_get (q := (11, 27, 2, true, 1222)) rfl rfl rfl rfl
theorem sX11_canTake_9 : ok d mX11_canTake n0 Q n c w 9 ls st M = ok d mX11_canTake n0 Q n c w 11 ls (.int 36 :: st) M := ok_r rfl (by rw [← bc_36]; rfl)
theorem sX11_canTake_11 {a : Nat} {i : Int32} : ok d mX11_canTake n0 Q n c w 11 ls (.int i :: .ref a :: st) M = (am_in n M a 1 i ∧ ok d mX11_canTake n0 Q n c w 12 ls (.int (gI M a i.toNatClampNeg) :: st) M) := ok_r rfl rfl
theorem sX11_canTake_12 {x z : Int32} : ok d mX11_canTake n0 Q n c w 12 ls (.int z :: .int x :: st) M = ((z ≤ x → ok d mX11_canTake n0 Q n c w 35 ls st M) ∧ (¬ (z ≤ x) → ok d mX11_canTake n0 Q n c w 15 ls st M)) := ok_ico (pc := 12) (off := 23) (k := .ge) rfl 35 (by decide)
theorem sX11_canTake_15 {x : Nat} : ok d mX11_canTake n0 Q n c w 15 (some (.ref x) :: ls) st M = ok d mX11_canTake n0 Q n c w 16 (some (.ref x) :: ls) (.ref x :: st) M := ok_r rfl rfl
theorem sX11_canTake_16 {a : Nat} : ok d mX11_canTake n0 Q n c w 16 ls (.ref a :: st) M = (am_ob n a 11 ∧ ok d mX11_canTake n0 Q n c w 19 ls (am_rv (gR M a 27) :: st) M) := ok_get (q := (11, 27, 2, true, 1222)) rfl rfl rfl rfl
theorem sX11_canTake_19 {l0 l1 : Option Value} {x : Int32} : ok d mX11_canTake n0 Q n c w 19 (l0 :: l1 :: some (.int x) :: ls) st M = ok d mX11_canTake n0 Q n c w 20 (l0 :: l1 :: some (.int x) :: ls) (.int x :: st) M := ok_r rfl rfl
theorem sX11_canTake_20 {l0 : Option Value} {x : Int32} : ok d mX11_canTake n0 Q n c w 20 (l0 :: some (.int x) :: ls) st M = ok d mX11_canTake n0 Q n c w 21 (l0 :: some (.int x) :: ls) (.int x :: st) M := ok_r rfl rfl
theorem sX11_canTake_21 {a0 : Nat} {a1 : Int32} {a2 : Int32} : ok d mX11_canTake n0 Q n 0 0 21 ls [.int a2, .int a1, .ref a0] M = am_big d mX11_needs0 [.ref a0, .int a1, .int a2] n M (kI fun x M' => ok d mX11_canTake n0 Q n 0 0 24 ls (.int x :: []) M') := ok_sta (y := mX11_canTake) (y' := mX11_needs0) (pc := 21) (k := 344) (ps := [1655, 1656, 110, 1657]) (c := 0) (w := 0) (st := [.int a2, .int a1, .ref a0]) (as := [.ref a0, .int a1, .int a2]) (rest := []) (kd := 1) rfl rfl (by decide) ⟨Nat.le_of_ble_eq_true rfl, Nat.le_of_ble_eq_true rfl, Nat.le_of_ble_eq_true rfl, Nat.le_of_ble_eq_true rfl, Nat.le_of_ble_eq_true rfl⟩ rfl rfl (am_contI (Or.inr rfl) rfl)
theorem sX11_canTake_24 {x : Int32} : ok d mX11_canTake n0 Q n c w 24 ls (.int x :: st) M = ((x = 0 → ok d mX11_canTake n0 Q n c w 29 ls st M) ∧ (¬ (x = 0) → ok d mX11_canTake n0 Q n c w 27 ls st M)) := ok_ifc (pc := 24) (off := 5) (k := .eq) rfl 29 (by decide)
theorem sX11_canTake_27 : ok d mX11_canTake n0 Q n c w 27 ls st M = ok d mX11_canTake n0 Q n c w 28 ls (.int 0 :: st) M := ok_r rfl (by rw [← ic_0]; rfl)
theorem sX11_canTake_28 {x : Int32} : ok d mX11_canTake n Q n 0 0 28 ls [.int x] M = ((x = 0 ∨ x = 1) ∧ Q (some (.int x)) M) := ok_reZ rfl rfl ⟨rfl, rfl, rfl⟩
theorem sX11_canTake_29 {l0 l1 : Option Value} {x : Int32} : ok d mX11_canTake n0 Q n c w 29 (l0 :: l1 :: some (.int x) :: ls) st M = ok d mX11_canTake n0 Q n c w 32 (l0 :: am_kl l1 :: some (.int (x + 1)) :: ls) st M := ok_inc (k := 2) rfl rfl ic_1 (by decide) rfl rfl
theorem sX11_canTake_32 : ok d mX11_canTake n0 Q n c w 32 ls st M = ok d mX11_canTake n0 Q n c w 4 ls st M := ok_got (pc := 32) (off := (-28)) rfl 4 (by decide)
theorem sX11_canTake_35 : ok d mX11_canTake n0 Q n c w 35 ls st M = ok d mX11_canTake n0 Q n c w 36 ls (.int 1 :: st) M := ok_r rfl (by rw [← ic_1]; rfl)
theorem sX11_canTake_36 {x : Int32} : ok d mX11_canTake n Q n 0 0 36 ls [.int x] M = ((x = 0 ∨ x = 1) ∧ Q (some (.int x)) M) := ok_reZ rfl rfl ⟨rfl, rfl, rfl⟩
theorem eX11_canTake {a0 : Nat} {a1 : Int32} {n : Nat} {M : am_M} {Q : am_Q} : am_big (d + 1) mX11_canTake [.ref a0, .int a1] n M Q = ok d mX11_canTake n Q n 0 0 0 [some (.ref a0), some (.int a1), none] [] M := rfl
theorem sX11_make_0 {x : Nat} : ok d mX11_make n0 Q n c w 0 (some (.ref x) :: ls) st M = ok d mX11_make n0 Q n c w 1 (some (.ref x) :: ls) (.ref x :: st) M := ok_r rfl rfl
theorem sX11_make_1 : ok d mX11_make n0 Q n c w 1 ls st M = ok d mX11_make n0 Q n c w 2 ls (.int 0 :: st) M := ok_r rfl (by rw [← ic_0]; rfl)
theorem sX11_make_2 {a : Nat} {x : Int32} : ok d mX11_make n0 Q n c w 2 ls (.int x :: .ref a :: st) M = (am_ob n a 11 ∧ ok d mX11_make n0 Q n c w 5 ls st (sI M a 0 x)) := ok_put (q := (11, 0, 0, false, 1195)) rfl rfl (fun h => by cases h) rfl rfl
theorem sX11_make_5 {x : Nat} : ok d mX11_make n0 Q n c w 5 (some (.ref x) :: ls) st M = ok d mX11_make n0 Q n c w 6 (some (.ref x) :: ls) (.ref x :: st) M := ok_r rfl rfl
theorem sX11_make_6 {b : Nat}  : ok d mX11_make n0 Q n 0 0 6 ls [.ref b] M = (am_ob n b 11 ∧ am_big d mX11_isLate [.ref b] n M (kI fun x M' => ok d mX11_make n0 Q n 0 0 9 ls (.int x :: []) M')) := ok_vir (y := mX11_make) (y' := mX11_isLate) (pc := 6) (k := 368) (ps := [1611, 1613, 66, 110, 1614]) (c := 0) (w := 0) (st := [.ref b]) (as := [.ref b]) (rest := []) (b := b) rfl rfl rfl ⟨Nat.le_of_ble_eq_true rfl, Nat.le_of_ble_eq_true rfl, Nat.le_of_ble_eq_true rfl, Nat.le_of_ble_eq_true rfl, Nat.le_of_ble_eq_true rfl⟩ rfl rfl (am_contI (Or.inr rfl) rfl)
theorem sX11_make_9 {x : Int32} : ok d mX11_make n0 Q n c w 9 ls (.int x :: st) M = ((¬ x = 0 → ok d mX11_make n0 Q n c w 26 ls st M) ∧ (¬ (¬ x = 0) → ok d mX11_make n0 Q n c w 12 ls st M)) := ok_ifc (pc := 9) (off := 17) (k := .ne) rfl 26 (by decide)
theorem sX11_make_12 {x : Nat} : ok d mX11_make n0 Q n c w 12 (some (.ref x) :: ls) st M = ok d mX11_make n0 Q n c w 13 (some (.ref x) :: ls) (.ref x :: st) M := ok_r rfl rfl
theorem sX11_make_13 {x : Nat} : ok d mX11_make n0 Q n c w 13 (some (.ref x) :: ls) st M = ok d mX11_make n0 Q n c w 14 (some (.ref x) :: ls) (.ref x :: st) M := ok_r rfl rfl
theorem sX11_make_14 {a : Nat} : ok d mX11_make n0 Q n c w 14 ls (.ref a :: st) M = (am_ob n a 11 ∧ ok d mX11_make n0 Q n c w 17 ls (am_rv (gR M a 27) :: st) M) := ok_get (q := (11, 27, 2, true, 1222)) rfl rfl rfl rfl
theorem sX11_make_17 {l0 : Option Value} {x : Int32} : ok d mX11_make n0 Q n c w 17 (l0 :: some (.int x) :: ls) st M = ok d mX11_make n0 Q n c w 18 (l0 :: some (.int x) :: ls) (.int x :: st) M := ok_r rfl rfl
theorem sX11_make_18 {l0 l1 : Option Value} {x : Int32} : ok d mX11_make n0 Q n c w 18 (l0 :: l1 :: some (.int x) :: ls) st M = ok d mX11_make n0 Q n c w 19 (l0 :: l1 :: some (.int x) :: ls) (.int x :: st) M := ok_r rfl rfl
theorem sX11_make_19 {l0 l1 l2 : Option Value} {x : Int32} : ok d mX11_make n0 Q n c w 19 (l0 :: l1 :: l2 :: some (.int x) :: ls) st M = ok d mX11_make n0 Q n c w 20 (l0 :: l1 :: l2 :: some (.int x) :: ls) (.int x :: st) M := ok_r rfl rfl
theorem sX11_make_20 {b : Nat} {a0 : Nat} {a1 : Int32} {a2 : Int32} {a3 : Int32} : ok d mX11_make n0 Q n 0 0 20 ls [.int a3, .int a2, .int a1, .ref a0, .ref b] M = (am_ob n b 11 ∧ am_big d mX11_canDo [.ref b, .ref a0, .int a1, .int a2, .int a3] n M (kI fun x M' => ok d mX11_make n0 Q n 0 0 23 ls (.int x :: []) M')) := ok_vir (y := mX11_make) (y' := mX11_canDo) (pc := 20) (k := 371) (ps := [1615, 1617, 67, 110, 1618]) (c := 0) (w := 0) (st := [.int a3, .int a2, .int a1, .ref a0, .ref b]) (as := [.ref b, .ref a0, .int a1, .int a2, .int a3]) (rest := []) (b := b) rfl rfl rfl ⟨Nat.le_of_ble_eq_true rfl, Nat.le_of_ble_eq_true rfl, Nat.le_of_ble_eq_true rfl, Nat.le_of_ble_eq_true rfl, Nat.le_of_ble_eq_true rfl⟩ rfl rfl (am_contI (Or.inr rfl) rfl)
theorem sX11_make_23 {x : Int32} : ok d mX11_make n0 Q n c w 23 ls (.int x :: st) M = ((¬ x = 0 → ok d mX11_make n0 Q n c w 28 ls st M) ∧ (¬ (¬ x = 0) → ok d mX11_make n0 Q n c w 26 ls st M)) := ok_ifc (pc := 23) (off := 5) (k := .ne) rfl 28 (by decide)
theorem sX11_make_26 : ok d mX11_make n0 Q n c w 26 ls st M = ok d mX11_make n0 Q n c w 27 ls (.int (-1) :: st) M := ok_r rfl (by rw [← ic_m1]; rfl)
theorem sX11_make_27 {x : Int32} : ok d mX11_make n Q n 0 0 27 ls [.int x] M = Q (some (.int x)) M := ok_reI rfl rfl ⟨rfl, rfl, rfl⟩
theorem sX11_make_28 {x : Nat} : ok d mX11_make n0 Q n c w 28 (some (.ref x) :: ls) st M = ok d mX11_make n0 Q n c w 29 (some (.ref x) :: ls) (.ref x :: st) M := ok_r rfl rfl
theorem sX11_make_29 {b : Nat}  : ok d mX11_make n0 Q n 0 0 29 ls [.ref b] M = (am_ob n b 11 ∧ am_big d mX11_begins0 [.ref b] n M (kV fun M' => ok d mX11_make n0 Q n 0 0 32 ls [] M')) := ok_vir (y := mX11_make) (y' := mX11_begins0) (pc := 29) (k := 375) (ps := [1628, 1630, 70, 110, 1631]) (c := 0) (w := 0) (st := [.ref b]) (as := [.ref b]) (rest := []) (b := b) rfl rfl rfl ⟨Nat.le_of_ble_eq_true rfl, Nat.le_of_ble_eq_true rfl, Nat.le_of_ble_eq_true rfl, Nat.le_of_ble_eq_true rfl, Nat.le_of_ble_eq_true rfl⟩ rfl rfl (am_contV rfl)
theorem sX11_make_32 {x : Nat} : ok d mX11_make n0 Q n c w 32 (some (.ref x) :: ls) st M = ok d mX11_make n0 Q n c w 33 (some (.ref x) :: ls) (.ref x :: st) M := ok_r rfl rfl
theorem sX11_make_33 {l0 : Option Value} {x : Int32} : ok d mX11_make n0 Q n c w 33 (l0 :: some (.int x) :: ls) st M = ok d mX11_make n0 Q n c w 34 (l0 :: some (.int x) :: ls) (.int x :: st) M := ok_r rfl rfl
theorem sX11_make_34 {l0 l1 : Option Value} {x : Int32} : ok d mX11_make n0 Q n c w 34 (l0 :: l1 :: some (.int x) :: ls) st M = ok d mX11_make n0 Q n c w 35 (l0 :: l1 :: some (.int x) :: ls) (.int x :: st) M := ok_r rfl rfl
theorem sX11_make_35 {l0 l1 l2 : Option Value} {x : Int32} : ok d mX11_make n0 Q n c w 35 (l0 :: l1 :: l2 :: some (.int x) :: ls) st M = ok d mX11_make n0 Q n c w 36 (l0 :: l1 :: l2 :: some (.int x) :: ls) (.int x :: st) M := ok_r rfl rfl
theorem sX11_make_36 {b : Nat} {a0 : Int32} {a1 : Int32} {a2 : Int32} : ok d mX11_make n0 Q n 0 0 36 ls [.int a2, .int a1, .int a0, .ref b] M = (am_ob n b 11 ∧ am_big d mX11_actMake [.ref b, .int a0, .int a1, .int a2] n M (kV fun M' => ok d mX11_make n0 Q n 0 0 39 ls [] M')) := ok_vir (y := mX11_make) (y' := mX11_actMake) (pc := 36) (k := 378) (ps := [1636, 1638, 72, 110, 1639]) (c := 0) (w := 0) (st := [.int a2, .int a1, .int a0, .ref b]) (as := [.ref b, .int a0, .int a1, .int a2]) (rest := []) (b := b) rfl rfl rfl ⟨Nat.le_of_ble_eq_true rfl, Nat.le_of_ble_eq_true rfl, Nat.le_of_ble_eq_true rfl, Nat.le_of_ble_eq_true rfl, Nat.le_of_ble_eq_true rfl⟩ rfl rfl (am_contV rfl)
theorem sX11_make_39 {x : Nat} : ok d mX11_make n0 Q n c w 39 (some (.ref x) :: ls) st M = ok d mX11_make n0 Q n c w 40 (some (.ref x) :: ls) (.ref x :: st) M := ok_r rfl rfl
theorem sX11_make_40 {a : Nat} : ok d mX11_make n0 Q n c w 40 ls (.ref a :: st) M = (am_ob n a 11 ∧ ok d mX11_make n0 Q n c w 43 ls (am_rv (gR M a 27) :: st) M) := ok_get (q := (11, 27, 2, true, 1222)) rfl rfl rfl rfl
theorem sX11_make_43 : ok d mX11_make n0 Q n c w 43 ls st M = ok d mX11_make n0 Q n c w 45 ls (.int 36 :: st) M := ok_r rfl (by rw [← bc_36]; rfl)
theorem sX11_make_45 {a : Nat} {i : Int32} : ok d mX11_make n0 Q n c w 45 ls (.int i :: .ref a :: st) M = (am_in n M a 1 i ∧ ok d mX11_make n0 Q n c w 46 ls (.int (gI M a i.toNatClampNeg) :: st) M) := ok_r rfl rfl
theorem sX11_make_46 {x : Int32} : ok d mX11_make n Q n 0 0 46 ls [.int x] M = Q (some (.int x)) M := ok_reI rfl rfl ⟨rfl, rfl, rfl⟩
theorem eX11_make {a0 : Nat} {a1 : Int32} {a2 : Int32} {a3 : Int32} {n : Nat} {M : am_M} {Q : am_Q} : am_big (d + 1) mX11_make [.ref a0, .int a1, .int a2, .int a3] n M Q = ok d mX11_make n Q n 0 0 0 [some (.ref a0), some (.int a1), some (.int a2), some (.int a3)] [] M := rfl
theorem sX11_undoes_0 {x : Nat} : ok d mX11_undoes n0 Q n c w 0 (some (.ref x) :: ls) st M = ok d mX11_undoes n0 Q n c w 1 (some (.ref x) :: ls) (.ref x :: st) M := ok_r rfl rfl
theorem sX11_undoes_1 : ok d mX11_undoes n0 Q n c w 1 ls st M = ok d mX11_undoes n0 Q n c w 2 ls (.int 0 :: st) M := ok_r rfl (by rw [← ic_0]; rfl)
theorem sX11_undoes_2 {a : Nat} {x : Int32} : ok d mX11_undoes n0 Q n c w 2 ls (.int x :: .ref a :: st) M = (am_ob n a 11 ∧ ok d mX11_undoes n0 Q n c w 5 ls st (sI M a 0 x)) := ok_put (q := (11, 0, 0, false, 1195)) rfl rfl (fun h => by cases h) rfl rfl
theorem sX11_undoes_5 {x : Nat} : ok d mX11_undoes n0 Q n c w 5 (some (.ref x) :: ls) st M = ok d mX11_undoes n0 Q n c w 6 (some (.ref x) :: ls) (.ref x :: st) M := ok_r rfl rfl
theorem sX11_undoes_6 {b : Nat}  : ok d mX11_undoes n0 Q n 0 0 6 ls [.ref b] M = (am_ob n b 11 ∧ am_big d mX11_isLate [.ref b] n M (kI fun x M' => ok d mX11_undoes n0 Q n 0 0 9 ls (.int x :: []) M')) := ok_vir (y := mX11_undoes) (y' := mX11_isLate) (pc := 6) (k := 368) (ps := [1611, 1613, 66, 110, 1614]) (c := 0) (w := 0) (st := [.ref b]) (as := [.ref b]) (rest := []) (b := b) rfl rfl rfl ⟨Nat.le_of_ble_eq_true rfl, Nat.le_of_ble_eq_true rfl, Nat.le_of_ble_eq_true rfl, Nat.le_of_ble_eq_true rfl, Nat.le_of_ble_eq_true rfl⟩ rfl rfl (am_contI (Or.inr rfl) rfl)
theorem sX11_undoes_9 {x : Int32} : ok d mX11_undoes n0 Q n c w 9 ls (.int x :: st) M = ((¬ x = 0 → ok d mX11_undoes n0 Q n c w 28 ls st M) ∧ (¬ (¬ x = 0) → ok d mX11_undoes n0 Q n c w 12 ls st M)) := ok_ifc (pc := 9) (off := 19) (k := .ne) rfl 28 (by decide)
theorem sX11_undoes_12 {x : Nat} : ok d mX11_undoes n0 Q n c w 12 (some (.ref x) :: ls) st M = ok d mX11_undoes n0 Q n c w 13 (some (.ref x) :: ls) (.ref x :: st) M := ok_r rfl rfl
theorem sX11_undoes_13 {l0 : Option Value} {x : Int32} : ok d mX11_undoes n0 Q n c w 13 (l0 :: some (.int x) :: ls) st M = ok d mX11_undoes n0 Q n c w 14 (l0 :: some (.int x) :: ls) (.int x :: st) M := ok_r rfl rfl
theorem sX11_undoes_14 {b : Nat} {a0 : Int32} : ok d mX11_undoes n0 Q n 0 0 14 ls [.int a0, .ref b] M = (am_ob n b 11 ∧ am_big d mX11_isDeed [.ref b, .int a0] n M (kI fun x M' => ok d mX11_undoes n0 Q n 0 0 17 ls (.int x :: []) M')) := ok_vir (y := mX11_undoes) (y' := mX11_isDeed) (pc := 14) (k := 351) (ps := [1594, 1596, 65, 110, 1597]) (c := 0) (w := 0) (st := [.int a0, .ref b]) (as := [.ref b, .int a0]) (rest := []) (b := b) rfl rfl rfl ⟨Nat.le_of_ble_eq_true rfl, Nat.le_of_ble_eq_true rfl, Nat.le_of_ble_eq_true rfl, Nat.le_of_ble_eq_true rfl, Nat.le_of_ble_eq_true rfl⟩ rfl rfl (am_contI (Or.inr rfl) rfl)
theorem sX11_undoes_17 {x : Int32} : ok d mX11_undoes n0 Q n c w 17 ls (.int x :: st) M = ((x = 0 → ok d mX11_undoes n0 Q n c w 28 ls st M) ∧ (¬ (x = 0) → ok d mX11_undoes n0 Q n c w 20 ls st M)) := ok_ifc (pc := 17) (off := 11) (k := .eq) rfl 28 (by decide)
theorem sX11_undoes_20 {x : Nat} : ok d mX11_undoes n0 Q n c w 20 (some (.ref x) :: ls) st M = ok d mX11_undoes n0 Q n c w 21 (some (.ref x) :: ls) (.ref x :: st) M := ok_r rfl rfl
theorem sX11_undoes_21 {l0 : Option Value} {x : Int32} : ok d mX11_undoes n0 Q n c w 21 (l0 :: some (.int x) :: ls) st M = ok d mX11_undoes n0 Q n c w 22 (l0 :: some (.int x) :: ls) (.int x :: st) M := ok_r rfl rfl
theorem sX11_undoes_22 {b : Nat} {a0 : Int32} : ok d mX11_undoes n0 Q n 0 0 22 ls [.int a0, .ref b] M = (am_ob n b 11 ∧ am_big d mX11_canTake [.ref b, .int a0] n M (kI fun x M' => ok d mX11_undoes n0 Q n 0 0 25 ls (.int x :: []) M')) := ok_vir (y := mX11_undoes) (y' := mX11_canTake) (pc := 22) (k := 382) (ps := [1651, 1653, 74, 110, 1654]) (c := 0) (w := 0) (st := [.int a0, .ref b]) (as := [.ref b, .int a0]) (rest := []) (b := b) rfl rfl rfl ⟨Nat.le_of_ble_eq_true rfl, Nat.le_of_ble_eq_true rfl, Nat.le_of_ble_eq_true rfl, Nat.le_of_ble_eq_true rfl, Nat.le_of_ble_eq_true rfl⟩ rfl rfl (am_contI (Or.inr rfl) rfl)
theorem sX11_undoes_25 {x : Int32} : ok d mX11_undoes n0 Q n c w 25 ls (.int x :: st) M = ((¬ x = 0 → ok d mX11_undoes n0 Q n c w 30 ls st M) ∧ (¬ (¬ x = 0) → ok d mX11_undoes n0 Q n c w 28 ls st M)) := ok_ifc (pc := 25) (off := 5) (k := .ne) rfl 30 (by decide)
theorem sX11_undoes_28 : ok d mX11_undoes n0 Q n c w 28 ls st M = ok d mX11_undoes n0 Q n c w 29 ls (.int (-1) :: st) M := ok_r rfl (by rw [← ic_m1]; rfl)
theorem sX11_undoes_29 {x : Int32} : ok d mX11_undoes n Q n 0 0 29 ls [.int x] M = Q (some (.int x)) M := ok_reI rfl rfl ⟨rfl, rfl, rfl⟩
theorem sX11_undoes_30 {x : Nat} : ok d mX11_undoes n0 Q n c w 30 (some (.ref x) :: ls) st M = ok d mX11_undoes n0 Q n c w 31 (some (.ref x) :: ls) (.ref x :: st) M := ok_r rfl rfl
theorem sX11_undoes_31 {b : Nat}  : ok d mX11_undoes n0 Q n 0 0 31 ls [.ref b] M = (am_ob n b 11 ∧ am_big d mX11_begins0 [.ref b] n M (kV fun M' => ok d mX11_undoes n0 Q n 0 0 34 ls [] M')) := ok_vir (y := mX11_undoes) (y' := mX11_begins0) (pc := 31) (k := 375) (ps := [1628, 1630, 70, 110, 1631]) (c := 0) (w := 0) (st := [.ref b]) (as := [.ref b]) (rest := []) (b := b) rfl rfl rfl ⟨Nat.le_of_ble_eq_true rfl, Nat.le_of_ble_eq_true rfl, Nat.le_of_ble_eq_true rfl, Nat.le_of_ble_eq_true rfl, Nat.le_of_ble_eq_true rfl⟩ rfl rfl (am_contV rfl)
theorem sX11_undoes_34 {x : Nat} : ok d mX11_undoes n0 Q n c w 34 (some (.ref x) :: ls) st M = ok d mX11_undoes n0 Q n c w 35 (some (.ref x) :: ls) (.ref x :: st) M := ok_r rfl rfl
theorem sX11_undoes_35 {l0 : Option Value} {x : Int32} : ok d mX11_undoes n0 Q n c w 35 (l0 :: some (.int x) :: ls) st M = ok d mX11_undoes n0 Q n c w 36 (l0 :: some (.int x) :: ls) (.int x :: st) M := ok_r rfl rfl
theorem sX11_undoes_36 {b : Nat} {a0 : Int32} : ok d mX11_undoes n0 Q n 0 0 36 ls [.int a0, .ref b] M = (am_ob n b 11 ∧ am_big d mX11_actTake [.ref b, .int a0] n M (kV fun M' => ok d mX11_undoes n0 Q n 0 0 39 ls [] M')) := ok_vir (y := mX11_undoes) (y' := mX11_actTake) (pc := 36) (k := 385) (ps := [1658, 1660, 75, 110, 1661]) (c := 0) (w := 0) (st := [.int a0, .ref b]) (as := [.ref b, .int a0]) (rest := []) (b := b) rfl rfl rfl ⟨Nat.le_of_ble_eq_true rfl, Nat.le_of_ble_eq_true rfl, Nat.le_of_ble_eq_true rfl, Nat.le_of_ble_eq_true rfl, Nat.le_of_ble_eq_true rfl⟩ rfl rfl (am_contV rfl)
theorem sX11_undoes_39 {x : Nat} : ok d mX11_undoes n0 Q n c w 39 (some (.ref x) :: ls) st M = ok d mX11_undoes n0 Q n c w 40 (some (.ref x) :: ls) (.ref x :: st) M := ok_r rfl rfl
theorem sX11_undoes_40 {a : Nat} : ok d mX11_undoes n0 Q n c w 40 ls (.ref a :: st) M = (am_ob n a 11 ∧ ok d mX11_undoes n0 Q n c w 43 ls (am_rv (gR M a 27) :: st) M) := ok_get (q := (11, 27, 2, true, 1222)) rfl rfl rfl rfl
theorem sX11_undoes_43 : ok d mX11_undoes n0 Q n c w 43 ls st M = ok d mX11_undoes n0 Q n c w 45 ls (.int 36 :: st) M := ok_r rfl (by rw [← bc_36]; rfl)
theorem sX11_undoes_45 {a : Nat} {i : Int32} : ok d mX11_undoes n0 Q n c w 45 ls (.int i :: .ref a :: st) M = (am_in n M a 1 i ∧ ok d mX11_undoes n0 Q n c w 46 ls (.int (gI M a i.toNatClampNeg) :: st) M) := ok_r rfl rfl
theorem sX11_undoes_46 {x : Int32} : ok d mX11_undoes n Q n 0 0 46 ls [.int x] M = Q (some (.int x)) M := ok_reI rfl rfl ⟨rfl, rfl, rfl⟩
theorem eX11_undoes {a0 : Nat} {a1 : Int32} {n : Nat} {M : am_M} {Q : am_Q} : am_big (d + 1) mX11_undoes [.ref a0, .int a1] n M Q = ok d mX11_undoes n Q n 0 0 0 [some (.ref a0), some (.int a1)] [] M := rfl
theorem sX11_takes__0 {x : Nat} : ok d mX11_takes_ n0 Q n c w 0 (some (.ref x) :: ls) st M = ok d mX11_takes_ n0 Q n c w 1 (some (.ref x) :: ls) (.ref x :: st) M := ok_r rfl rfl
theorem sX11_takes__1 : ok d mX11_takes_ n0 Q n c w 1 ls st M = ok d mX11_takes_ n0 Q n c w 2 ls (.int 0 :: st) M := ok_r rfl (by rw [← ic_0]; rfl)
theorem sX11_takes__2 {a : Nat} {x : Int32} : ok d mX11_takes_ n0 Q n c w 2 ls (.int x :: .ref a :: st) M = (am_ob n a 11 ∧ ok d mX11_takes_ n0 Q n c w 5 ls st (sI M a 0 x)) := ok_put (q := (11, 0, 0, false, 1195)) rfl rfl (fun h => by cases h) rfl rfl
theorem sX11_takes__5 {x : Nat} : ok d mX11_takes_ n0 Q n c w 5 (some (.ref x) :: ls) st M = ok d mX11_takes_ n0 Q n c w 6 (some (.ref x) :: ls) (.ref x :: st) M := ok_r rfl rfl
theorem sX11_takes__6 {b : Nat}  : ok d mX11_takes_ n0 Q n 0 0 6 ls [.ref b] M = (am_ob n b 11 ∧ am_big d mX11_isLate [.ref b] n M (kI fun x M' => ok d mX11_takes_ n0 Q n 0 0 9 ls (.int x :: []) M')) := ok_vir (y := mX11_takes_) (y' := mX11_isLate) (pc := 6) (k := 368) (ps := [1611, 1613, 66, 110, 1614]) (c := 0) (w := 0) (st := [.ref b]) (as := [.ref b]) (rest := []) (b := b) rfl rfl rfl ⟨Nat.le_of_ble_eq_true rfl, Nat.le_of_ble_eq_true rfl, Nat.le_of_ble_eq_true rfl, Nat.le_of_ble_eq_true rfl, Nat.le_of_ble_eq_true rfl⟩ rfl rfl (am_contI (Or.inr rfl) rfl)
theorem sX11_takes__9 {x : Int32} : ok d mX11_takes_ n0 Q n c w 9 ls (.int x :: st) M = ((¬ x = 0 → ok d mX11_takes_ n0 Q n c w 59 ls st M) ∧ (¬ (¬ x = 0) → ok d mX11_takes_ n0 Q n c w 12 ls st M)) := ok_ifc (pc := 9) (off := 50) (k := .ne) rfl 59 (by decide)
theorem sX11_takes__12 {x : Nat} : ok d mX11_takes_ n0 Q n c w 12 (some (.ref x) :: ls) st M = ok d mX11_takes_ n0 Q n c w 13 (some (.ref x) :: ls) (.ref x :: st) M := ok_r rfl rfl
theorem sX11_takes__13 {l0 : Option Value} {x : Int32} : ok d mX11_takes_ n0 Q n c w 13 (l0 :: some (.int x) :: ls) st M = ok d mX11_takes_ n0 Q n c w 14 (l0 :: some (.int x) :: ls) (.int x :: st) M := ok_r rfl rfl
theorem sX11_takes__14 {b : Nat} {a0 : Int32} : ok d mX11_takes_ n0 Q n 0 0 14 ls [.int a0, .ref b] M = (am_ob n b 11 ∧ am_big d mX11_isHand [.ref b, .int a0] n M (kI fun x M' => ok d mX11_takes_ n0 Q n 0 0 17 ls (.int x :: []) M')) := ok_vir (y := mX11_takes_) (y' := mX11_isHand) (pc := 14) (k := 348) (ps := [1570, 1572, 62, 110, 1573]) (c := 0) (w := 0) (st := [.int a0, .ref b]) (as := [.ref b, .int a0]) (rest := []) (b := b) rfl rfl rfl ⟨Nat.le_of_ble_eq_true rfl, Nat.le_of_ble_eq_true rfl, Nat.le_of_ble_eq_true rfl, Nat.le_of_ble_eq_true rfl, Nat.le_of_ble_eq_true rfl⟩ rfl rfl (am_contI (Or.inr rfl) rfl)
theorem sX11_takes__17 {x : Int32} : ok d mX11_takes_ n0 Q n c w 17 ls (.int x :: st) M = ((x = 0 → ok d mX11_takes_ n0 Q n c w 59 ls st M) ∧ (¬ (x = 0) → ok d mX11_takes_ n0 Q n c w 20 ls st M)) := ok_ifc (pc := 17) (off := 42) (k := .eq) rfl 59 (by decide)
theorem sX11_takes__20 {x : Nat} : ok d mX11_takes_ n0 Q n c w 20 (some (.ref x) :: ls) st M = ok d mX11_takes_ n0 Q n c w 21 (some (.ref x) :: ls) (.ref x :: st) M := ok_r rfl rfl
theorem sX11_takes__21 {l0 l1 : Option Value} {x : Int32} : ok d mX11_takes_ n0 Q n c w 21 (l0 :: l1 :: some (.int x) :: ls) st M = ok d mX11_takes_ n0 Q n c w 22 (l0 :: l1 :: some (.int x) :: ls) (.int x :: st) M := ok_r rfl rfl
theorem sX11_takes__22 {b : Nat} {a0 : Int32} : ok d mX11_takes_ n0 Q n 0 0 22 ls [.int a0, .ref b] M = (am_ob n b 11 ∧ am_big d mX11_isDeed [.ref b, .int a0] n M (kI fun x M' => ok d mX11_takes_ n0 Q n 0 0 25 ls (.int x :: []) M')) := ok_vir (y := mX11_takes_) (y' := mX11_isDeed) (pc := 22) (k := 351) (ps := [1594, 1596, 65, 110, 1597]) (c := 0) (w := 0) (st := [.int a0, .ref b]) (as := [.ref b, .int a0]) (rest := []) (b := b) rfl rfl rfl ⟨Nat.le_of_ble_eq_true rfl, Nat.le_of_ble_eq_true rfl, Nat.le_of_ble_eq_true rfl, Nat.le_of_ble_eq_true rfl, Nat.le_of_ble_eq_true rfl⟩ rfl rfl (am_contI (Or.inr rfl) rfl)
theorem sX11_takes__25 {x : Int32} : ok d mX11_takes_ n0 Q n c w 25 ls (.int x :: st) M = ((x = 0 → ok d mX11_takes_ n0 Q n c w 59 ls st M) ∧ (¬ (x = 0) → ok d mX11_takes_ n0 Q n c w 28 ls st M)) := ok_ifc (pc := 25) (off := 34) (k := .eq) rfl 59 (by decide)
theorem sX11_takes__28 {x : Nat} : ok d mX11_takes_ n0 Q n c w 28 (some (.ref x) :: ls) st M = ok d mX11_takes_ n0 Q n c w 29 (some (.ref x) :: ls) (.ref x :: st) M := ok_r rfl rfl
theorem sX11_takes__29 {a : Nat} : ok d mX11_takes_ n0 Q n c w 29 ls (.ref a :: st) M = (am_ob n a 11 ∧ ok d mX11_takes_ n0 Q n c w 32 ls (am_rv (gR M a 27) :: st) M) := ok_get (q := (11, 27, 2, true, 1222)) rfl rfl rfl rfl
theorem sX11_takes__32 : ok d mX11_takes_ n0 Q n c w 32 ls st M = ok d mX11_takes_ n0 Q n c w 34 ls (.int 37 :: st) M := ok_r rfl (by rw [← bc_37]; rfl)
theorem sX11_takes__34 {l0 : Option Value} {x : Int32} : ok d mX11_takes_ n0 Q n c w 34 (l0 :: some (.int x) :: ls) st M = ok d mX11_takes_ n0 Q n c w 35 (l0 :: some (.int x) :: ls) (.int x :: st) M := ok_r rfl rfl
theorem sX11_takes__35 {x z : Int32} : ok d mX11_takes_ n0 Q n c w 35 ls (.int z :: .int x :: st) M = ok d mX11_takes_ n0 Q n c w 36 ls (.int (x + z) :: st) M := ok_r rfl rfl
theorem sX11_takes__36 {a : Nat} {i : Int32} : ok d mX11_takes_ n0 Q n c w 36 ls (.int i :: .ref a :: st) M = (am_in n M a 1 i ∧ ok d mX11_takes_ n0 Q n c w 37 ls (.int (gI M a i.toNatClampNeg) :: st) M) := ok_r rfl rfl
theorem sX11_takes__37 {x : Nat} : ok d mX11_takes_ n0 Q n c w 37 (some (.ref x) :: ls) st M = ok d mX11_takes_ n0 Q n c w 38 (some (.ref x) :: ls) (.ref x :: st) M := ok_r rfl rfl
theorem sX11_takes__38 {a : Nat} : ok d mX11_takes_ n0 Q n c w 38 ls (.ref a :: st) M = (am_ob n a 11 ∧ ok d mX11_takes_ n0 Q n c w 41 ls (am_rv (gR M a 27) :: st) M) := ok_get (q := (11, 27, 2, true, 1222)) rfl rfl rfl rfl
theorem sX11_takes__41 : ok d mX11_takes_ n0 Q n c w 41 ls st M = ok d mX11_takes_ n0 Q n c w 42 ls (.int 3 :: st) M := ok_r rfl (by rw [← ic_3]; rfl)
theorem sX11_takes__42 {l0 l1 : Option Value} {x : Int32} : ok d mX11_takes_ n0 Q n c w 42 (l0 :: l1 :: some (.int x) :: ls) st M = ok d mX11_takes_ n0 Q n c w 43 (l0 :: l1 :: some (.int x) :: ls) (.int x :: st) M := ok_r rfl rfl
theorem sX11_takes__43 {x z : Int32} : ok d mX11_takes_ n0 Q n c w 43 ls (.int z :: .int x :: st) M = ok d mX11_takes_ n0 Q n c w 44 ls (.int (x * z) :: st) M := ok_r rfl rfl
theorem sX11_takes__44 {a : Nat} {i : Int32} : ok d mX11_takes_ n0 Q n c w 44 ls (.int i :: .ref a :: st) M = (am_in n M a 1 i ∧ ok d mX11_takes_ n0 Q n c w 45 ls (.int (gI M a i.toNatClampNeg) :: st) M) := ok_r rfl rfl
theorem sX11_takes__45 {a0 : Int32} {a1 : Int32} : ok d mX11_takes_ n0 Q n 0 0 45 ls [.int a1, .int a0] M = am_big d mX11_has [.int a0, .int a1] n M (kI fun x M' => ok d mX11_takes_ n0 Q n 0 0 48 ls (.int x :: []) M') := ok_sta (y := mX11_takes_) (y' := mX11_has) (pc := 45) (k := 264) (ps := [1481, 1482, 110, 1483]) (c := 0) (w := 0) (st := [.int a1, .int a0]) (as := [.int a0, .int a1]) (rest := []) (kd := 1) rfl rfl (by decide) ⟨Nat.le_of_ble_eq_true rfl, Nat.le_of_ble_eq_true rfl, Nat.le_of_ble_eq_true rfl, Nat.le_of_ble_eq_true rfl, Nat.le_of_ble_eq_true rfl⟩ rfl rfl (am_contI (Or.inr rfl) rfl)
theorem sX11_takes__48 {x : Int32} : ok d mX11_takes_ n0 Q n c w 48 ls (.int x :: st) M = ((x = 0 → ok d mX11_takes_ n0 Q n c w 59 ls st M) ∧ (¬ (x = 0) → ok d mX11_takes_ n0 Q n c w 51 ls st M)) := ok_ifc (pc := 48) (off := 11) (k := .eq) rfl 59 (by decide)
theorem sX11_takes__51 {x : Nat} : ok d mX11_takes_ n0 Q n c w 51 (some (.ref x) :: ls) st M = ok d mX11_takes_ n0 Q n c w 52 (some (.ref x) :: ls) (.ref x :: st) M := ok_r rfl rfl
theorem sX11_takes__52 {l0 l1 : Option Value} {x : Int32} : ok d mX11_takes_ n0 Q n c w 52 (l0 :: l1 :: some (.int x) :: ls) st M = ok d mX11_takes_ n0 Q n c w 53 (l0 :: l1 :: some (.int x) :: ls) (.int x :: st) M := ok_r rfl rfl
theorem sX11_takes__53 {b : Nat} {a0 : Int32} : ok d mX11_takes_ n0 Q n 0 0 53 ls [.int a0, .ref b] M = (am_ob n b 11 ∧ am_big d mX11_canTake [.ref b, .int a0] n M (kI fun x M' => ok d mX11_takes_ n0 Q n 0 0 56 ls (.int x :: []) M')) := ok_vir (y := mX11_takes_) (y' := mX11_canTake) (pc := 53) (k := 382) (ps := [1651, 1653, 74, 110, 1654]) (c := 0) (w := 0) (st := [.int a0, .ref b]) (as := [.ref b, .int a0]) (rest := []) (b := b) rfl rfl rfl ⟨Nat.le_of_ble_eq_true rfl, Nat.le_of_ble_eq_true rfl, Nat.le_of_ble_eq_true rfl, Nat.le_of_ble_eq_true rfl, Nat.le_of_ble_eq_true rfl⟩ rfl rfl (am_contI (Or.inr rfl) rfl)
theorem sX11_takes__56 {x : Int32} : ok d mX11_takes_ n0 Q n c w 56 ls (.int x :: st) M = ((¬ x = 0 → ok d mX11_takes_ n0 Q n c w 61 ls st M) ∧ (¬ (¬ x = 0) → ok d mX11_takes_ n0 Q n c w 59 ls st M)) := ok_ifc (pc := 56) (off := 5) (k := .ne) rfl 61 (by decide)
theorem sX11_takes__59 : ok d mX11_takes_ n0 Q n c w 59 ls st M = ok d mX11_takes_ n0 Q n c w 60 ls (.int (-1) :: st) M := ok_r rfl (by rw [← ic_m1]; rfl)
theorem sX11_takes__60 {x : Int32} : ok d mX11_takes_ n Q n 0 0 60 ls [.int x] M = Q (some (.int x)) M := ok_reI rfl rfl ⟨rfl, rfl, rfl⟩
theorem sX11_takes__61 {x : Nat} : ok d mX11_takes_ n0 Q n c w 61 (some (.ref x) :: ls) st M = ok d mX11_takes_ n0 Q n c w 62 (some (.ref x) :: ls) (.ref x :: st) M := ok_r rfl rfl
theorem sX11_takes__62 {b : Nat}  : ok d mX11_takes_ n0 Q n 0 0 62 ls [.ref b] M = (am_ob n b 11 ∧ am_big d mX11_begins0 [.ref b] n M (kV fun M' => ok d mX11_takes_ n0 Q n 0 0 65 ls [] M')) := ok_vir (y := mX11_takes_) (y' := mX11_begins0) (pc := 62) (k := 375) (ps := [1628, 1630, 70, 110, 1631]) (c := 0) (w := 0) (st := [.ref b]) (as := [.ref b]) (rest := []) (b := b) rfl rfl rfl ⟨Nat.le_of_ble_eq_true rfl, Nat.le_of_ble_eq_true rfl, Nat.le_of_ble_eq_true rfl, Nat.le_of_ble_eq_true rfl, Nat.le_of_ble_eq_true rfl⟩ rfl rfl (am_contV rfl)
theorem sX11_takes__65 {x : Nat} : ok d mX11_takes_ n0 Q n c w 65 (some (.ref x) :: ls) st M = ok d mX11_takes_ n0 Q n c w 66 (some (.ref x) :: ls) (.ref x :: st) M := ok_r rfl rfl
theorem sX11_takes__66 {l0 l1 : Option Value} {x : Int32} : ok d mX11_takes_ n0 Q n c w 66 (l0 :: l1 :: some (.int x) :: ls) st M = ok d mX11_takes_ n0 Q n c w 67 (l0 :: l1 :: some (.int x) :: ls) (.int x :: st) M := ok_r rfl rfl
theorem sX11_takes__67 {b : Nat} {a0 : Int32} : ok d mX11_takes_ n0 Q n 0 0 67 ls [.int a0, .ref b] M = (am_ob n b 11 ∧ am_big d mX11_actTake [.ref b, .int a0] n M (kV fun M' => ok d mX11_takes_ n0 Q n 0 0 70 ls [] M')) := ok_vir (y := mX11_takes_) (y' := mX11_actTake) (pc := 67) (k := 385) (ps := [1658, 1660, 75, 110, 1661]) (c := 0) (w := 0) (st := [.int a0, .ref b]) (as := [.ref b, .int a0]) (rest := []) (b := b) rfl rfl rfl ⟨Nat.le_of_ble_eq_true rfl, Nat.le_of_ble_eq_true rfl, Nat.le_of_ble_eq_true rfl, Nat.le_of_ble_eq_true rfl, Nat.le_of_ble_eq_true rfl⟩ rfl rfl (am_contV rfl)
theorem sX11_takes__70 {x : Nat} : ok d mX11_takes_ n0 Q n c w 70 (some (.ref x) :: ls) st M = ok d mX11_takes_ n0 Q n c w 71 (some (.ref x) :: ls) (.ref x :: st) M := ok_r rfl rfl
theorem sX11_takes__71 {a : Nat} : ok d mX11_takes_ n0 Q n c w 71 ls (.ref a :: st) M = (am_ob n a 11 ∧ ok d mX11_takes_ n0 Q n c w 74 ls (am_rv (gR M a 27) :: st) M) := ok_get (q := (11, 27, 2, true, 1222)) rfl rfl rfl rfl
theorem sX11_takes__74 : ok d mX11_takes_ n0 Q n c w 74 ls st M = ok d mX11_takes_ n0 Q n c w 76 ls (.int 36 :: st) M := ok_r rfl (by rw [← bc_36]; rfl)
theorem sX11_takes__76 {a : Nat} {i : Int32} : ok d mX11_takes_ n0 Q n c w 76 ls (.int i :: .ref a :: st) M = (am_in n M a 1 i ∧ ok d mX11_takes_ n0 Q n c w 77 ls (.int (gI M a i.toNatClampNeg) :: st) M) := ok_r rfl rfl
theorem sX11_takes__77 {x : Int32} : ok d mX11_takes_ n Q n 0 0 77 ls [.int x] M = Q (some (.int x)) M := ok_reI rfl rfl ⟨rfl, rfl, rfl⟩
theorem eX11_takes_ {a0 : Nat} {a1 : Int32} {a2 : Int32} {n : Nat} {M : am_M} {Q : am_Q} : am_big (d + 1) mX11_takes_ [.ref a0, .int a1, .int a2] n M Q = ok d mX11_takes_ n Q n 0 0 0 [some (.ref a0), some (.int a1), some (.int a2)] [] M := rfl
theorem sX11_enter_0 {x : Nat} : ok d mX11_enter n0 Q n c w 0 (some (.ref x) :: ls) st M = ok d mX11_enter n0 Q n c w 1 (some (.ref x) :: ls) (.ref x :: st) M := ok_r rfl rfl
theorem sX11_enter_1 : ok d mX11_enter n0 Q n c w 1 ls st M = ok d mX11_enter n0 Q n c w 2 ls (.int 0 :: st) M := ok_r rfl (by rw [← ic_0]; rfl)
theorem sX11_enter_2 {a : Nat} {x : Int32} : ok d mX11_enter n0 Q n c w 2 ls (.int x :: .ref a :: st) M = (am_ob n a 11 ∧ ok d mX11_enter n0 Q n c w 5 ls st (sI M a 0 x)) := ok_put (q := (11, 0, 0, false, 1195)) rfl rfl (fun h => by cases h) rfl rfl
theorem sX11_enter_5 {x : Nat} : ok d mX11_enter n0 Q n c w 5 (some (.ref x) :: ls) st M = ok d mX11_enter n0 Q n c w 6 (some (.ref x) :: ls) (.ref x :: st) M := ok_r rfl rfl
theorem sX11_enter_6 {b : Nat}  : ok d mX11_enter n0 Q n 0 0 6 ls [.ref b] M = (am_ob n b 11 ∧ am_big d mX11_isLate [.ref b] n M (kI fun x M' => ok d mX11_enter n0 Q n 0 0 9 ls (.int x :: []) M')) := ok_vir (y := mX11_enter) (y' := mX11_isLate) (pc := 6) (k := 368) (ps := [1611, 1613, 66, 110, 1614]) (c := 0) (w := 0) (st := [.ref b]) (as := [.ref b]) (rest := []) (b := b) rfl rfl rfl ⟨Nat.le_of_ble_eq_true rfl, Nat.le_of_ble_eq_true rfl, Nat.le_of_ble_eq_true rfl, Nat.le_of_ble_eq_true rfl, Nat.le_of_ble_eq_true rfl⟩ rfl rfl (am_contI (Or.inr rfl) rfl)
theorem sX11_enter_9 {x : Int32} : ok d mX11_enter n0 Q n c w 9 ls (.int x :: st) M = ((¬ x = 0 → ok d mX11_enter n0 Q n c w 20 ls st M) ∧ (¬ (¬ x = 0) → ok d mX11_enter n0 Q n c w 12 ls st M)) := ok_ifc (pc := 9) (off := 11) (k := .ne) rfl 20 (by decide)
theorem sX11_enter_12 {x : Nat} : ok d mX11_enter n0 Q n c w 12 (some (.ref x) :: ls) st M = ok d mX11_enter n0 Q n c w 13 (some (.ref x) :: ls) (.ref x :: st) M := ok_r rfl rfl
theorem sX11_enter_13 {l0 : Option Value} {x : Int32} : ok d mX11_enter n0 Q n c w 13 (l0 :: some (.int x) :: ls) st M = ok d mX11_enter n0 Q n c w 14 (l0 :: some (.int x) :: ls) (.int x :: st) M := ok_r rfl rfl
theorem sX11_enter_14 {b : Nat} {a0 : Int32} : ok d mX11_enter n0 Q n 0 0 14 ls [.int a0, .ref b] M = (am_ob n b 11 ∧ am_big d mX11_isHand [.ref b, .int a0] n M (kI fun x M' => ok d mX11_enter n0 Q n 0 0 17 ls (.int x :: []) M')) := ok_vir (y := mX11_enter) (y' := mX11_isHand) (pc := 14) (k := 348) (ps := [1570, 1572, 62, 110, 1573]) (c := 0) (w := 0) (st := [.int a0, .ref b]) (as := [.ref b, .int a0]) (rest := []) (b := b) rfl rfl rfl ⟨Nat.le_of_ble_eq_true rfl, Nat.le_of_ble_eq_true rfl, Nat.le_of_ble_eq_true rfl, Nat.le_of_ble_eq_true rfl, Nat.le_of_ble_eq_true rfl⟩ rfl rfl (am_contI (Or.inr rfl) rfl)
theorem sX11_enter_17 {x : Int32} : ok d mX11_enter n0 Q n c w 17 ls (.int x :: st) M = ((¬ x = 0 → ok d mX11_enter n0 Q n c w 22 ls st M) ∧ (¬ (¬ x = 0) → ok d mX11_enter n0 Q n c w 20 ls st M)) := ok_ifc (pc := 17) (off := 5) (k := .ne) rfl 22 (by decide)
theorem sX11_enter_20 : ok d mX11_enter n0 Q n c w 20 ls st M = ok d mX11_enter n0 Q n c w 21 ls (.int (-1) :: st) M := ok_r rfl (by rw [← ic_m1]; rfl)
theorem sX11_enter_21 {x : Int32} : ok d mX11_enter n Q n 0 0 21 ls [.int x] M = Q (some (.int x)) M := ok_reI rfl rfl ⟨rfl, rfl, rfl⟩
theorem sX11_enter_22 {x : Nat} : ok d mX11_enter n0 Q n c w 22 (some (.ref x) :: ls) st M = ok d mX11_enter n0 Q n c w 23 (some (.ref x) :: ls) (.ref x :: st) M := ok_r rfl rfl
theorem sX11_enter_23 {b : Nat}  : ok d mX11_enter n0 Q n 0 0 23 ls [.ref b] M = (am_ob n b 11 ∧ am_big d mX11_begins0 [.ref b] n M (kV fun M' => ok d mX11_enter n0 Q n 0 0 26 ls [] M')) := ok_vir (y := mX11_enter) (y' := mX11_begins0) (pc := 23) (k := 375) (ps := [1628, 1630, 70, 110, 1631]) (c := 0) (w := 0) (st := [.ref b]) (as := [.ref b]) (rest := []) (b := b) rfl rfl rfl ⟨Nat.le_of_ble_eq_true rfl, Nat.le_of_ble_eq_true rfl, Nat.le_of_ble_eq_true rfl, Nat.le_of_ble_eq_true rfl, Nat.le_of_ble_eq_true rfl⟩ rfl rfl (am_contV rfl)
theorem sX11_enter_26 {x : Nat} : ok d mX11_enter n0 Q n c w 26 (some (.ref x) :: ls) st M = ok d mX11_enter n0 Q n c w 27 (some (.ref x) :: ls) (.ref x :: st) M := ok_r rfl rfl
theorem sX11_enter_27 {a : Nat} : ok d mX11_enter n0 Q n c w 27 ls (.ref a :: st) M = (am_ob n a 11 ∧ ok d mX11_enter n0 Q n c w 30 ls (am_rv (gR M a 27) :: st) M) := ok_get (q := (11, 27, 2, true, 1222)) rfl rfl rfl rfl
theorem sX11_enter_30 : ok d mX11_enter n0 Q n c w 30 ls st M = ok d mX11_enter n0 Q n c w 32 ls (.int 41 :: st) M := ok_r rfl (by rw [← bc_41]; rfl)
theorem sX11_enter_32 {x : Nat} {z : Int32} : ok d mX11_enter n0 Q n c w 32 ls (.int z :: .ref x :: st) M = ok d mX11_enter n0 Q n c w 33 ls (.int z :: .ref x :: .int z :: .ref x :: st) M := ok_r rfl rfl
theorem sX11_enter_33 {a : Nat} {i : Int32} : ok d mX11_enter n0 Q n c w 33 ls (.int i :: .ref a :: st) M = (am_in n M a 1 i ∧ ok d mX11_enter n0 Q n c w 34 ls (.int (gI M a i.toNatClampNeg) :: st) M) := ok_r rfl rfl
theorem sX11_enter_34 : ok d mX11_enter n0 Q n c w 34 ls st M = ok d mX11_enter n0 Q n c w 35 ls (.int 1 :: st) M := ok_r rfl (by rw [← ic_1]; rfl)
theorem sX11_enter_35 {l0 : Option Value} {x : Int32} : ok d mX11_enter n0 Q n c w 35 (l0 :: some (.int x) :: ls) st M = ok d mX11_enter n0 Q n c w 36 (l0 :: some (.int x) :: ls) (.int x :: st) M := ok_r rfl rfl
theorem sX11_enter_36 {x z : Int32} : ok d mX11_enter n0 Q n c w 36 ls (.int z :: .int x :: st) M = ok d mX11_enter n0 Q n c w 37 ls (.int (x <<< (z &&& 31)) :: st) M := ok_r rfl rfl
theorem sX11_enter_37 {x z : Int32} : ok d mX11_enter n0 Q n c w 37 ls (.int z :: .int x :: st) M = ok d mX11_enter n0 Q n c w 38 ls (.int (x ^^^ z) :: st) M := ok_r rfl rfl
theorem sX11_enter_38 {a : Nat} {i x : Int32} : ok d mX11_enter n0 Q n c w 38 ls (.int x :: .int i :: .ref a :: st) M = (am_iw n a 1 i ∧ ok d mX11_enter n0 Q n c w 39 ls st (sI M a i.toNatClampNeg x)) := ok_r rfl rfl
theorem sX11_enter_39 {x : Nat} : ok d mX11_enter n0 Q n c w 39 (some (.ref x) :: ls) st M = ok d mX11_enter n0 Q n c w 40 (some (.ref x) :: ls) (.ref x :: st) M := ok_r rfl rfl
theorem sX11_enter_40 {a : Nat} : ok d mX11_enter n0 Q n c w 40 ls (.ref a :: st) M = (am_ob n a 11 ∧ ok d mX11_enter n0 Q n c w 43 ls (am_rv (gR M a 27) :: st) M) := ok_get (q := (11, 27, 2, true, 1222)) rfl rfl rfl rfl
theorem sX11_enter_43 : ok d mX11_enter n0 Q n c w 43 ls st M = ok d mX11_enter n0 Q n c w 45 ls (.int 41 :: st) M := ok_r rfl (by rw [← bc_41]; rfl)
theorem sX11_enter_45 {a : Nat} {i : Int32} : ok d mX11_enter n0 Q n c w 45 ls (.int i :: .ref a :: st) M = (am_in n M a 1 i ∧ ok d mX11_enter n0 Q n c w 46 ls (.int (gI M a i.toNatClampNeg) :: st) M) := ok_r rfl rfl
theorem sX11_enter_46 {l0 : Option Value} {x : Int32} : ok d mX11_enter n0 Q n c w 46 (l0 :: some (.int x) :: ls) st M = ok d mX11_enter n0 Q n c w 47 (l0 :: some (.int x) :: ls) (.int x :: st) M := ok_r rfl rfl
theorem sX11_enter_47 {x z : Int32} : ok d mX11_enter n0 Q n c w 47 ls (.int z :: .int x :: st) M = ok d mX11_enter n0 Q n c w 48 ls (.int (x >>> (z &&& 31)) :: st) M := ok_r rfl rfl
theorem sX11_enter_48 : ok d mX11_enter n0 Q n c w 48 ls st M = ok d mX11_enter n0 Q n c w 49 ls (.int 1 :: st) M := ok_r rfl (by rw [← ic_1]; rfl)
theorem sX11_enter_49 {x z : Int32} : ok d mX11_enter n0 Q n c w 49 ls (.int z :: .int x :: st) M = ok d mX11_enter n0 Q n c w 50 ls (.int (x &&& z) :: st) M := ok_r rfl rfl
theorem sX11_enter_50 {x : Int32} : ok d mX11_enter n Q n 0 0 50 ls [.int x] M = Q (some (.int x)) M := ok_reI rfl rfl ⟨rfl, rfl, rfl⟩
theorem eX11_enter {a0 : Nat} {a1 : Int32} {n : Nat} {M : am_M} {Q : am_Q} : am_big (d + 1) mX11_enter [.ref a0, .int a1] n M Q = ok d mX11_enter n Q n 0 0 0 [some (.ref a0), some (.int a1)] [] M := rfl
theorem sX11_forgets_0 {x : Nat} : ok d mX11_forgets n0 Q n c w 0 (some (.ref x) :: ls) st M = ok d mX11_forgets n0 Q n c w 1 (some (.ref x) :: ls) (.ref x :: st) M := ok_r rfl rfl
theorem sX11_forgets_1 : ok d mX11_forgets n0 Q n c w 1 ls st M = ok d mX11_forgets n0 Q n c w 2 ls (.int 0 :: st) M := ok_r rfl (by rw [← ic_0]; rfl)
theorem sX11_forgets_2 {a : Nat} {x : Int32} : ok d mX11_forgets n0 Q n c w 2 ls (.int x :: .ref a :: st) M = (am_ob n a 11 ∧ ok d mX11_forgets n0 Q n c w 5 ls st (sI M a 0 x)) := ok_put (q := (11, 0, 0, false, 1195)) rfl rfl (fun h => by cases h) rfl rfl
theorem sX11_forgets_5 {x : Nat} : ok d mX11_forgets n0 Q n c w 5 (some (.ref x) :: ls) st M = ok d mX11_forgets n0 Q n c w 6 (some (.ref x) :: ls) (.ref x :: st) M := ok_r rfl rfl
theorem sX11_forgets_6 {b : Nat}  : ok d mX11_forgets n0 Q n 0 0 6 ls [.ref b] M = (am_ob n b 11 ∧ am_big d mX11_isLate [.ref b] n M (kI fun x M' => ok d mX11_forgets n0 Q n 0 0 9 ls (.int x :: []) M')) := ok_vir (y := mX11_forgets) (y' := mX11_isLate) (pc := 6) (k := 368) (ps := [1611, 1613, 66, 110, 1614]) (c := 0) (w := 0) (st := [.ref b]) (as := [.ref b]) (rest := []) (b := b) rfl rfl rfl ⟨Nat.le_of_ble_eq_true rfl, Nat.le_of_ble_eq_true rfl, Nat.le_of_ble_eq_true rfl, Nat.le_of_ble_eq_true rfl, Nat.le_of_ble_eq_true rfl⟩ rfl rfl (am_contI (Or.inr rfl) rfl)
theorem sX11_forgets_9 {x : Int32} : ok d mX11_forgets n0 Q n c w 9 ls (.int x :: st) M = ((¬ x = 0 → ok d mX11_forgets n0 Q n c w 43 ls st M) ∧ (¬ (¬ x = 0) → ok d mX11_forgets n0 Q n c w 12 ls st M)) := ok_ifc (pc := 9) (off := 34) (k := .ne) rfl 43 (by decide)
theorem sX11_forgets_12 {x : Nat} : ok d mX11_forgets n0 Q n c w 12 (some (.ref x) :: ls) st M = ok d mX11_forgets n0 Q n c w 13 (some (.ref x) :: ls) (.ref x :: st) M := ok_r rfl rfl
theorem sX11_forgets_13 {l0 : Option Value} {x : Int32} : ok d mX11_forgets n0 Q n c w 13 (l0 :: some (.int x) :: ls) st M = ok d mX11_forgets n0 Q n c w 14 (l0 :: some (.int x) :: ls) (.int x :: st) M := ok_r rfl rfl
theorem sX11_forgets_14 {b : Nat} {a0 : Int32} : ok d mX11_forgets n0 Q n 0 0 14 ls [.int a0, .ref b] M = (am_ob n b 11 ∧ am_big d mX11_isHand [.ref b, .int a0] n M (kI fun x M' => ok d mX11_forgets n0 Q n 0 0 17 ls (.int x :: []) M')) := ok_vir (y := mX11_forgets) (y' := mX11_isHand) (pc := 14) (k := 348) (ps := [1570, 1572, 62, 110, 1573]) (c := 0) (w := 0) (st := [.int a0, .ref b]) (as := [.ref b, .int a0]) (rest := []) (b := b) rfl rfl rfl ⟨Nat.le_of_ble_eq_true rfl, Nat.le_of_ble_eq_true rfl, Nat.le_of_ble_eq_true rfl, Nat.le_of_ble_eq_true rfl, Nat.le_of_ble_eq_true rfl⟩ rfl rfl (am_contI (Or.inr rfl) rfl)
theorem sX11_forgets_17 {x : Int32} : ok d mX11_forgets n0 Q n c w 17 ls (.int x :: st) M = ((x = 0 → ok d mX11_forgets n0 Q n c w 43 ls st M) ∧ (¬ (x = 0) → ok d mX11_forgets n0 Q n c w 20 ls st M)) := ok_ifc (pc := 17) (off := 26) (k := .eq) rfl 43 (by decide)
theorem sX11_forgets_20 {l0 l1 : Option Value} {x : Int32} : ok d mX11_forgets n0 Q n c w 20 (l0 :: l1 :: some (.int x) :: ls) st M = ok d mX11_forgets n0 Q n c w 21 (l0 :: l1 :: some (.int x) :: ls) (.int x :: st) M := ok_r rfl rfl
theorem sX11_forgets_21 {a0 : Int32} : ok d mX11_forgets n0 Q n 0 0 21 ls [.int a0] M = am_big d mX11_isSort [.int a0] n M (kI fun x M' => ok d mX11_forgets n0 Q n 0 0 24 ls (.int x :: []) M') := ok_sta (y := mX11_forgets) (y' := mX11_isSort) (pc := 21) (k := 388) (ps := [1677, 1678, 110, 1679]) (c := 0) (w := 0) (st := [.int a0]) (as := [.int a0]) (rest := []) (kd := 1) rfl rfl (by decide) ⟨Nat.le_of_ble_eq_true rfl, Nat.le_of_ble_eq_true rfl, Nat.le_of_ble_eq_true rfl, Nat.le_of_ble_eq_true rfl, Nat.le_of_ble_eq_true rfl⟩ rfl rfl (am_contI (Or.inr rfl) rfl)
theorem sX11_forgets_24 {x : Int32} : ok d mX11_forgets n0 Q n c w 24 ls (.int x :: st) M = ((x = 0 → ok d mX11_forgets n0 Q n c w 43 ls st M) ∧ (¬ (x = 0) → ok d mX11_forgets n0 Q n c w 27 ls st M)) := ok_ifc (pc := 24) (off := 19) (k := .eq) rfl 43 (by decide)
theorem sX11_forgets_27 {x : Nat} : ok d mX11_forgets n0 Q n c w 27 (some (.ref x) :: ls) st M = ok d mX11_forgets n0 Q n c w 28 (some (.ref x) :: ls) (.ref x :: st) M := ok_r rfl rfl
theorem sX11_forgets_28 {a : Nat} : ok d mX11_forgets n0 Q n c w 28 ls (.ref a :: st) M = (am_ob n a 11 ∧ ok d mX11_forgets n0 Q n c w 31 ls (am_rv (gR M a 27) :: st) M) := ok_get (q := (11, 27, 2, true, 1222)) rfl rfl rfl rfl
theorem sX11_forgets_31 : ok d mX11_forgets n0 Q n c w 31 ls st M = ok d mX11_forgets n0 Q n c w 33 ls (.int 37 :: st) M := ok_r rfl (by rw [← bc_37]; rfl)
theorem sX11_forgets_33 {l0 : Option Value} {x : Int32} : ok d mX11_forgets n0 Q n c w 33 (l0 :: some (.int x) :: ls) st M = ok d mX11_forgets n0 Q n c w 34 (l0 :: some (.int x) :: ls) (.int x :: st) M := ok_r rfl rfl
theorem sX11_forgets_34 {x z : Int32} : ok d mX11_forgets n0 Q n c w 34 ls (.int z :: .int x :: st) M = ok d mX11_forgets n0 Q n c w 35 ls (.int (x + z) :: st) M := ok_r rfl rfl
theorem sX11_forgets_35 {a : Nat} {i : Int32} : ok d mX11_forgets n0 Q n c w 35 ls (.int i :: .ref a :: st) M = (am_in n M a 1 i ∧ ok d mX11_forgets n0 Q n c w 36 ls (.int (gI M a i.toNatClampNeg) :: st) M) := ok_r rfl rfl
theorem sX11_forgets_36 {l0 l1 : Option Value} {x : Int32} : ok d mX11_forgets n0 Q n c w 36 (l0 :: l1 :: some (.int x) :: ls) st M = ok d mX11_forgets n0 Q n c w 37 (l0 :: l1 :: some (.int x) :: ls) (.int x :: st) M := ok_r rfl rfl
theorem sX11_forgets_37 {a0 : Int32} {a1 : Int32} : ok d mX11_forgets n0 Q n 0 0 37 ls [.int a1, .int a0] M = am_big d mX11_has [.int a0, .int a1] n M (kI fun x M' => ok d mX11_forgets n0 Q n 0 0 40 ls (.int x :: []) M') := ok_sta (y := mX11_forgets) (y' := mX11_has) (pc := 37) (k := 264) (ps := [1481, 1482, 110, 1483]) (c := 0) (w := 0) (st := [.int a1, .int a0]) (as := [.int a0, .int a1]) (rest := []) (kd := 1) rfl rfl (by decide) ⟨Nat.le_of_ble_eq_true rfl, Nat.le_of_ble_eq_true rfl, Nat.le_of_ble_eq_true rfl, Nat.le_of_ble_eq_true rfl, Nat.le_of_ble_eq_true rfl⟩ rfl rfl (am_contI (Or.inr rfl) rfl)
theorem sX11_forgets_40 {x : Int32} : ok d mX11_forgets n0 Q n c w 40 ls (.int x :: st) M = ((¬ x = 0 → ok d mX11_forgets n0 Q n c w 45 ls st M) ∧ (¬ (¬ x = 0) → ok d mX11_forgets n0 Q n c w 43 ls st M)) := ok_ifc (pc := 40) (off := 5) (k := .ne) rfl 45 (by decide)
theorem sX11_forgets_43 : ok d mX11_forgets n0 Q n c w 43 ls st M = ok d mX11_forgets n0 Q n c w 44 ls (.int (-1) :: st) M := ok_r rfl (by rw [← ic_m1]; rfl)
theorem sX11_forgets_44 {x : Int32} : ok d mX11_forgets n Q n 0 0 44 ls [.int x] M = Q (some (.int x)) M := ok_reI rfl rfl ⟨rfl, rfl, rfl⟩
theorem sX11_forgets_45 {x : Nat} : ok d mX11_forgets n0 Q n c w 45 (some (.ref x) :: ls) st M = ok d mX11_forgets n0 Q n c w 46 (some (.ref x) :: ls) (.ref x :: st) M := ok_r rfl rfl
theorem sX11_forgets_46 {b : Nat}  : ok d mX11_forgets n0 Q n 0 0 46 ls [.ref b] M = (am_ob n b 11 ∧ am_big d mX11_begins0 [.ref b] n M (kV fun M' => ok d mX11_forgets n0 Q n 0 0 49 ls [] M')) := ok_vir (y := mX11_forgets) (y' := mX11_begins0) (pc := 46) (k := 375) (ps := [1628, 1630, 70, 110, 1631]) (c := 0) (w := 0) (st := [.ref b]) (as := [.ref b]) (rest := []) (b := b) rfl rfl rfl ⟨Nat.le_of_ble_eq_true rfl, Nat.le_of_ble_eq_true rfl, Nat.le_of_ble_eq_true rfl, Nat.le_of_ble_eq_true rfl, Nat.le_of_ble_eq_true rfl⟩ rfl rfl (am_contV rfl)
theorem sX11_forgets_49 {x : Nat} : ok d mX11_forgets n0 Q n c w 49 (some (.ref x) :: ls) st M = ok d mX11_forgets n0 Q n c w 50 (some (.ref x) :: ls) (.ref x :: st) M := ok_r rfl rfl
theorem sX11_forgets_50 {a : Nat} : ok d mX11_forgets n0 Q n c w 50 ls (.ref a :: st) M = (am_ob n a 11 ∧ ok d mX11_forgets n0 Q n c w 53 ls (am_rv (gR M a 27) :: st) M) := ok_get (q := (11, 27, 2, true, 1222)) rfl rfl rfl rfl
theorem sX11_forgets_53 : ok d mX11_forgets n0 Q n c w 53 ls st M = ok d mX11_forgets n0 Q n c w 55 ls (.int 37 :: st) M := ok_r rfl (by rw [← bc_37]; rfl)
theorem sX11_forgets_55 {l0 : Option Value} {x : Int32} : ok d mX11_forgets n0 Q n c w 55 (l0 :: some (.int x) :: ls) st M = ok d mX11_forgets n0 Q n c w 56 (l0 :: some (.int x) :: ls) (.int x :: st) M := ok_r rfl rfl
theorem sX11_forgets_56 {x z : Int32} : ok d mX11_forgets n0 Q n c w 56 ls (.int z :: .int x :: st) M = ok d mX11_forgets n0 Q n c w 57 ls (.int (x + z) :: st) M := ok_r rfl rfl
theorem sX11_forgets_57 {x : Nat} {z : Int32} : ok d mX11_forgets n0 Q n c w 57 ls (.int z :: .ref x :: st) M = ok d mX11_forgets n0 Q n c w 58 ls (.int z :: .ref x :: .int z :: .ref x :: st) M := ok_r rfl rfl
theorem sX11_forgets_58 {a : Nat} {i : Int32} : ok d mX11_forgets n0 Q n c w 58 ls (.int i :: .ref a :: st) M = (am_in n M a 1 i ∧ ok d mX11_forgets n0 Q n c w 59 ls (.int (gI M a i.toNatClampNeg) :: st) M) := ok_r rfl rfl
theorem sX11_forgets_59 : ok d mX11_forgets n0 Q n c w 59 ls st M = ok d mX11_forgets n0 Q n c w 60 ls (.int 1 :: st) M := ok_r rfl (by rw [← ic_1]; rfl)
theorem sX11_forgets_60 {l0 l1 : Option Value} {x : Int32} : ok d mX11_forgets n0 Q n c w 60 (l0 :: l1 :: some (.int x) :: ls) st M = ok d mX11_forgets n0 Q n c w 61 (l0 :: l1 :: some (.int x) :: ls) (.int x :: st) M := ok_r rfl rfl
theorem sX11_forgets_61 {x z : Int32} : ok d mX11_forgets n0 Q n c w 61 ls (.int z :: .int x :: st) M = ok d mX11_forgets n0 Q n c w 62 ls (.int (x <<< (z &&& 31)) :: st) M := ok_r rfl rfl
theorem sX11_forgets_62 : ok d mX11_forgets n0 Q n c w 62 ls st M = ok d mX11_forgets n0 Q n c w 63 ls (.int (-1) :: st) M := ok_r rfl (by rw [← ic_m1]; rfl)
theorem sX11_forgets_63 {x z : Int32} : ok d mX11_forgets n0 Q n c w 63 ls (.int z :: .int x :: st) M = ok d mX11_forgets n0 Q n c w 64 ls (.int (x ^^^ z) :: st) M := ok_r rfl rfl
theorem sX11_forgets_64 {x z : Int32} : ok d mX11_forgets n0 Q n c w 64 ls (.int z :: .int x :: st) M = ok d mX11_forgets n0 Q n c w 65 ls (.int (x &&& z) :: st) M := ok_r rfl rfl
theorem sX11_forgets_65 {a : Nat} {i x : Int32} : ok d mX11_forgets n0 Q n c w 65 ls (.int x :: .int i :: .ref a :: st) M = (am_iw n a 1 i ∧ ok d mX11_forgets n0 Q n c w 66 ls st (sI M a i.toNatClampNeg x)) := ok_r rfl rfl
theorem sX11_forgets_66 {x : Nat} : ok d mX11_forgets n0 Q n c w 66 (some (.ref x) :: ls) st M = ok d mX11_forgets n0 Q n c w 67 (some (.ref x) :: ls) (.ref x :: st) M := ok_r rfl rfl
theorem sX11_forgets_67 {a : Nat} : ok d mX11_forgets n0 Q n c w 67 ls (.ref a :: st) M = (am_ob n a 11 ∧ ok d mX11_forgets n0 Q n c w 70 ls (am_rv (gR M a 27) :: st) M) := ok_get (q := (11, 27, 2, true, 1222)) rfl rfl rfl rfl
theorem sX11_forgets_70 : ok d mX11_forgets n0 Q n c w 70 ls st M = ok d mX11_forgets n0 Q n c w 72 ls (.int 37 :: st) M := ok_r rfl (by rw [← bc_37]; rfl)
theorem sX11_forgets_72 {l0 : Option Value} {x : Int32} : ok d mX11_forgets n0 Q n c w 72 (l0 :: some (.int x) :: ls) st M = ok d mX11_forgets n0 Q n c w 73 (l0 :: some (.int x) :: ls) (.int x :: st) M := ok_r rfl rfl
theorem sX11_forgets_73 {x z : Int32} : ok d mX11_forgets n0 Q n c w 73 ls (.int z :: .int x :: st) M = ok d mX11_forgets n0 Q n c w 74 ls (.int (x + z) :: st) M := ok_r rfl rfl
theorem sX11_forgets_74 {a : Nat} {i : Int32} : ok d mX11_forgets n0 Q n c w 74 ls (.int i :: .ref a :: st) M = (am_in n M a 1 i ∧ ok d mX11_forgets n0 Q n c w 75 ls (.int (gI M a i.toNatClampNeg) :: st) M) := ok_r rfl rfl
theorem sX11_forgets_75 {x : Int32} : ok d mX11_forgets n Q n 0 0 75 ls [.int x] M = Q (some (.int x)) M := ok_reI rfl rfl ⟨rfl, rfl, rfl⟩
theorem eX11_forgets {a0 : Nat} {a1 : Int32} {a2 : Int32} {n : Nat} {M : am_M} {Q : am_Q} : am_big (d + 1) mX11_forgets [.ref a0, .int a1, .int a2] n M Q = ok d mX11_forgets n Q n 0 0 0 [some (.ref a0), some (.int a1), some (.int a2)] [] M := rfl
theorem sX11_sell_0 {x : Nat} : ok d mX11_sell n0 Q n c w 0 (some (.ref x) :: ls) st M = ok d mX11_sell n0 Q n c w 1 (some (.ref x) :: ls) (.ref x :: st) M := ok_r rfl rfl
theorem sX11_sell_1 : ok d mX11_sell n0 Q n c w 1 ls st M = ok d mX11_sell n0 Q n c w 2 ls (.int 0 :: st) M := ok_r rfl (by rw [← ic_0]; rfl)
theorem sX11_sell_2 {a : Nat} {x : Int32} : ok d mX11_sell n0 Q n c w 2 ls (.int x :: .ref a :: st) M = (am_ob n a 11 ∧ ok d mX11_sell n0 Q n c w 5 ls st (sI M a 0 x)) := ok_put (q := (11, 0, 0, false, 1195)) rfl rfl (fun h => by cases h) rfl rfl
theorem sX11_sell_5 {x : Nat} : ok d mX11_sell n0 Q n c w 5 (some (.ref x) :: ls) st M = ok d mX11_sell n0 Q n c w 6 (some (.ref x) :: ls) (.ref x :: st) M := ok_r rfl rfl
theorem sX11_sell_6 {b : Nat}  : ok d mX11_sell n0 Q n 0 0 6 ls [.ref b] M = (am_ob n b 11 ∧ am_big d mX11_isLate [.ref b] n M (kI fun x M' => ok d mX11_sell n0 Q n 0 0 9 ls (.int x :: []) M')) := ok_vir (y := mX11_sell) (y' := mX11_isLate) (pc := 6) (k := 368) (ps := [1611, 1613, 66, 110, 1614]) (c := 0) (w := 0) (st := [.ref b]) (as := [.ref b]) (rest := []) (b := b) rfl rfl rfl ⟨Nat.le_of_ble_eq_true rfl, Nat.le_of_ble_eq_true rfl, Nat.le_of_ble_eq_true rfl, Nat.le_of_ble_eq_true rfl, Nat.le_of_ble_eq_true rfl⟩ rfl rfl (am_contI (Or.inr rfl) rfl)
theorem sX11_sell_9 {x : Int32} : ok d mX11_sell n0 Q n c w 9 ls (.int x :: st) M = ((¬ x = 0 → ok d mX11_sell n0 Q n c w 22 ls st M) ∧ (¬ (¬ x = 0) → ok d mX11_sell n0 Q n c w 12 ls st M)) := ok_ifc (pc := 9) (off := 13) (k := .ne) rfl 22 (by decide)
theorem sX11_sell_12 {x : Nat} : ok d mX11_sell n0 Q n c w 12 (some (.ref x) :: ls) st M = ok d mX11_sell n0 Q n c w 13 (some (.ref x) :: ls) (.ref x :: st) M := ok_r rfl rfl
theorem sX11_sell_13 {a : Nat} : ok d mX11_sell n0 Q n c w 13 ls (.ref a :: st) M = (am_ob n a 11 ∧ ok d mX11_sell n0 Q n c w 16 ls (am_rv (gR M a 27) :: st) M) := ok_get (q := (11, 27, 2, true, 1222)) rfl rfl rfl rfl
theorem sX11_sell_16 : ok d mX11_sell n0 Q n c w 16 ls st M = ok d mX11_sell n0 Q n c w 18 ls (.int 36 :: st) M := ok_r rfl (by rw [← bc_36]; rfl)
theorem sX11_sell_18 {a : Nat} {i : Int32} : ok d mX11_sell n0 Q n c w 18 ls (.int i :: .ref a :: st) M = (am_in n M a 1 i ∧ ok d mX11_sell n0 Q n c w 19 ls (.int (gI M a i.toNatClampNeg) :: st) M) := ok_r rfl rfl
theorem sX11_sell_19 {x : Int32} : ok d mX11_sell n0 Q n c w 19 ls (.int x :: st) M = ((¬ x = 0 → ok d mX11_sell n0 Q n c w 24 ls st M) ∧ (¬ (¬ x = 0) → ok d mX11_sell n0 Q n c w 22 ls st M)) := ok_ifc (pc := 19) (off := 5) (k := .ne) rfl 24 (by decide)
theorem sX11_sell_22 : ok d mX11_sell n0 Q n c w 22 ls st M = ok d mX11_sell n0 Q n c w 23 ls (.int (-1) :: st) M := ok_r rfl (by rw [← ic_m1]; rfl)
theorem sX11_sell_23 {x : Int32} : ok d mX11_sell n Q n 0 0 23 ls [.int x] M = Q (some (.int x)) M := ok_reI rfl rfl ⟨rfl, rfl, rfl⟩
theorem sX11_sell_24 {x : Nat} : ok d mX11_sell n0 Q n c w 24 (some (.ref x) :: ls) st M = ok d mX11_sell n0 Q n c w 25 (some (.ref x) :: ls) (.ref x :: st) M := ok_r rfl rfl
theorem sX11_sell_25 {b : Nat}  : ok d mX11_sell n0 Q n 0 0 25 ls [.ref b] M = (am_ob n b 11 ∧ am_big d mX11_begins0 [.ref b] n M (kV fun M' => ok d mX11_sell n0 Q n 0 0 28 ls [] M')) := ok_vir (y := mX11_sell) (y' := mX11_begins0) (pc := 25) (k := 375) (ps := [1628, 1630, 70, 110, 1631]) (c := 0) (w := 0) (st := [.ref b]) (as := [.ref b]) (rest := []) (b := b) rfl rfl rfl ⟨Nat.le_of_ble_eq_true rfl, Nat.le_of_ble_eq_true rfl, Nat.le_of_ble_eq_true rfl, Nat.le_of_ble_eq_true rfl, Nat.le_of_ble_eq_true rfl⟩ rfl rfl (am_contV rfl)
theorem sX11_sell_28 {x : Nat} : ok d mX11_sell n0 Q n c w 28 (some (.ref x) :: ls) st M = ok d mX11_sell n0 Q n c w 29 (some (.ref x) :: ls) (.ref x :: st) M := ok_r rfl rfl
theorem sX11_sell_29 {a : Nat} : ok d mX11_sell n0 Q n c w 29 ls (.ref a :: st) M = (am_ob n a 11 ∧ ok d mX11_sell n0 Q n c w 32 ls (am_rv (gR M a 27) :: st) M) := ok_get (q := (11, 27, 2, true, 1222)) rfl rfl rfl rfl
theorem sX11_sell_32 : ok d mX11_sell n0 Q n c w 32 ls st M = ok d mX11_sell n0 Q n c w 34 ls (.int 36 :: st) M := ok_r rfl (by rw [← bc_36]; rfl)
theorem sX11_sell_34 {a : Nat} {i : Int32} : ok d mX11_sell n0 Q n c w 34 ls (.int i :: .ref a :: st) M = (am_in n M a 1 i ∧ ok d mX11_sell n0 Q n c w 35 ls (.int (gI M a i.toNatClampNeg) :: st) M) := ok_r rfl rfl
theorem sX11_sell_35 {l0 l1 : Option Value} {x : Int32} : ok d mX11_sell n0 Q n c w 35 (l0 :: l1 :: ls) (.int x :: st) M = ok d mX11_sell n0 Q n c w 36 (am_kl l0 :: some (.int x) :: ls) st M := ok_ist (k := 1) rfl (Or.inr ⟨_, rfl, rfl⟩) (by decide) rfl rfl
theorem sX11_sell_36 : ok d mX11_sell n0 Q n c w 36 ls st M = ok d mX11_sell n0 Q n c w 37 ls (.int 0 :: st) M := ok_r rfl (by rw [← ic_0]; rfl)
theorem sX11_sell_37 {l0 l1 l2 : Option Value} {x : Int32} : ok d mX11_sell n0 Q n c w 37 (l0 :: l1 :: l2 :: ls) (.int x :: st) M = ok d mX11_sell n0 Q n c w 38 (l0 :: am_kl l1 :: some (.int x) :: ls) st M := ok_ist (k := 2) rfl (Or.inr ⟨_, rfl, rfl⟩) (by decide) rfl rfl
theorem sX11_sell_38 {l0 l1 : Option Value} {x : Int32} : ok d mX11_sell n0 Q n c w 38 (l0 :: l1 :: some (.int x) :: ls) st M = ok d mX11_sell n0 Q n c w 39 (l0 :: l1 :: some (.int x) :: ls) (.int x :: st) M := ok_r rfl rfl
theorem sX11_sell_39 : ok d mX11_sell n0 Q n c w 39 ls st M = ok d mX11_sell n0 Q n c w 41 ls (.int 36 :: st) M := ok_r rfl (by rw [← bc_36]; rfl)
theorem sX11_sell_41 {x z : Int32} : ok d mX11_sell n0 Q n c w 41 ls (.int z :: .int x :: st) M = ((z < x → ok d mX11_sell n0 Q n c w 57 ls st M) ∧ (¬ (z < x) → ok d mX11_sell n0 Q n c w 44 ls st M)) := ok_ico (pc := 41) (off := 16) (k := .gt) rfl 57 (by decide)
theorem sX11_sell_44 {x : Nat} : ok d mX11_sell n0 Q n c w 44 (some (.ref x) :: ls) st M = ok d mX11_sell n0 Q n c w 45 (some (.ref x) :: ls) (.ref x :: st) M := ok_r rfl rfl
theorem sX11_sell_45 {a : Nat} : ok d mX11_sell n0 Q n c w 45 ls (.ref a :: st) M = (am_ob n a 11 ∧ ok d mX11_sell n0 Q n c w 48 ls (am_rv (gR M a 27) :: st) M) := ok_get (q := (11, 27, 2, true, 1222)) rfl rfl rfl rfl
theorem sX11_sell_48 {l0 l1 : Option Value} {x : Int32} : ok d mX11_sell n0 Q n c w 48 (l0 :: l1 :: some (.int x) :: ls) st M = ok d mX11_sell n0 Q n c w 49 (l0 :: l1 :: some (.int x) :: ls) (.int x :: st) M := ok_r rfl rfl
theorem sX11_sell_49 : ok d mX11_sell n0 Q n c w 49 ls st M = ok d mX11_sell n0 Q n c w 50 ls (.int 0 :: st) M := ok_r rfl (by rw [← ic_0]; rfl)
theorem sX11_sell_50 {a : Nat} {i x : Int32} : ok d mX11_sell n0 Q n c w 50 ls (.int x :: .int i :: .ref a :: st) M = (am_iw n a 1 i ∧ ok d mX11_sell n0 Q n c w 51 ls st (sI M a i.toNatClampNeg x)) := ok_r rfl rfl
theorem sX11_sell_51 {l0 l1 : Option Value} {x : Int32} : ok d mX11_sell n0 Q n c w 51 (l0 :: l1 :: some (.int x) :: ls) st M = ok d mX11_sell n0 Q n c w 54 (l0 :: am_kl l1 :: some (.int (x + 1)) :: ls) st M := ok_inc (k := 2) rfl rfl ic_1 (by decide) rfl rfl
theorem sX11_sell_54 : ok d mX11_sell n0 Q n c w 54 ls st M = ok d mX11_sell n0 Q n c w 38 ls st M := ok_got (pc := 54) (off := (-16)) rfl 38 (by decide)
theorem sX11_sell_57 {x : Nat} : ok d mX11_sell n0 Q n c w 57 (some (.ref x) :: ls) st M = ok d mX11_sell n0 Q n c w 58 (some (.ref x) :: ls) (.ref x :: st) M := ok_r rfl rfl
theorem sX11_sell_58 : ok d mX11_sell n0 Q n c w 58 ls st M = ok d mX11_sell n0 Q n c w 60 ls (.int 10 :: st) M := ok_r rfl (by rw [← bc_10]; rfl)
theorem sX11_sell_60 {b : Nat} {a0 : Int32} : ok d mX11_sell n0 Q n 0 0 60 ls [.int a0, .ref b] M = (am_ob n b 11 ∧ am_big d mX11_writes [.ref b, .int a0] n M (kV fun M' => ok d mX11_sell n0 Q n 0 0 63 ls [] M')) := ok_vir (y := mX11_sell) (y' := mX11_writes) (pc := 60) (k := 361) (ps := [1643, 1645, 73, 110, 1646]) (c := 0) (w := 0) (st := [.int a0, .ref b]) (as := [.ref b, .int a0]) (rest := []) (b := b) rfl rfl rfl ⟨Nat.le_of_ble_eq_true rfl, Nat.le_of_ble_eq_true rfl, Nat.le_of_ble_eq_true rfl, Nat.le_of_ble_eq_true rfl, Nat.le_of_ble_eq_true rfl⟩ rfl rfl (am_contV rfl)
theorem sX11_sell_63 {l0 : Option Value} {x : Int32} : ok d mX11_sell n0 Q n c w 63 (l0 :: some (.int x) :: ls) st M = ok d mX11_sell n0 Q n c w 64 (l0 :: some (.int x) :: ls) (.int x :: st) M := ok_r rfl rfl
theorem sX11_sell_64 {x : Int32} : ok d mX11_sell n Q n 0 0 64 ls [.int x] M = Q (some (.int x)) M := ok_reI rfl rfl ⟨rfl, rfl, rfl⟩
theorem eX11_sell {a0 : Nat} {n : Nat} {M : am_M} {Q : am_Q} : am_big (d + 1) mX11_sell [.ref a0] n M Q = ok d mX11_sell n Q n 0 0 0 [some (.ref a0), none, none] [] M := rfl
theorem sX11_draw_0 {x : Nat} : ok d mX11_draw n0 Q n c w 0 (some (.ref x) :: ls) st M = ok d mX11_draw n0 Q n c w 1 (some (.ref x) :: ls) (.ref x :: st) M := ok_r rfl rfl
theorem sX11_draw_1 {x : Nat} : ok d mX11_draw n0 Q n c w 1 (some (.ref x) :: ls) st M = ok d mX11_draw n0 Q n c w 2 (some (.ref x) :: ls) (.ref x :: st) M := ok_r rfl rfl
theorem sX11_draw_2 {a : Nat} : ok d mX11_draw n0 Q n c w 2 ls (.ref a :: st) M = (am_ob n a 11 ∧ ok d mX11_draw n0 Q n c w 5 ls (.long (gL M a 42) :: st) M) := ok_get (q := (11, 42, 1, false, 1237)) rfl rfl rfl rfl
theorem sX11_draw_5 : ok d mX11_draw n0 Q n c w 5 ls st M = ok d mX11_draw n0 Q n c w 8 ls (.long 6364136223846793005 :: st) M := ok_ldcl (v := (6364136223846793005, 1697)) rfl rfl rfl
theorem sX11_draw_8 {x z : Int64} : ok d mX11_draw n0 Q n c w 8 ls (.long z :: .long x :: st) M = ok d mX11_draw n0 Q n c w 9 ls (.long (x * z) :: st) M := ok_r rfl rfl
theorem sX11_draw_9 : ok d mX11_draw n0 Q n c w 9 ls st M = ok d mX11_draw n0 Q n c w 12 ls (.long 1442695040888963407 :: st) M := ok_ldcl (v := (1442695040888963407, 1698)) rfl rfl rfl
theorem sX11_draw_12 {x z : Int64} : ok d mX11_draw n0 Q n c w 12 ls (.long z :: .long x :: st) M = ok d mX11_draw n0 Q n c w 13 ls (.long (x + z) :: st) M := ok_r rfl rfl
theorem sX11_draw_13 {a : Nat} {x : Int64} : ok d mX11_draw n0 Q n c w 13 ls (.long x :: .ref a :: st) M = (am_ob n a 11 ∧ ok d mX11_draw n0 Q n c w 16 ls st (sL M a 42 x)) := ok_put (q := (11, 42, 1, false, 1237)) rfl rfl (fun h => by cases h) rfl rfl
theorem sX11_draw_16 {x : Nat} : ok d mX11_draw n0 Q n c w 16 (some (.ref x) :: ls) st M = ok d mX11_draw n0 Q n c w 17 (some (.ref x) :: ls) (.ref x :: st) M := ok_r rfl rfl
theorem sX11_draw_17 {a : Nat} : ok d mX11_draw n0 Q n c w 17 ls (.ref a :: st) M = (am_ob n a 11 ∧ ok d mX11_draw n0 Q n c w 20 ls (.long (gL M a 42) :: st) M) := ok_get (q := (11, 42, 1, false, 1237)) rfl rfl rfl rfl
theorem sX11_draw_20 : ok d mX11_draw n0 Q n c w 20 ls st M = ok d mX11_draw n0 Q n c w 22 ls (.int 33 :: st) M := ok_r rfl (by rw [← bc_33]; rfl)
theorem sX11_draw_22 {x : Int64} {z : Int32} : ok d mX11_draw n0 Q n c w 22 ls (.int z :: .long x :: st) M = ok d mX11_draw n0 Q n c w 23 ls (.long ((x.toUInt64 >>> (z.toInt64.toUInt64 &&& Int64.toUInt64 63)).toInt64) :: st) M := ok_r rfl rfl
theorem sX11_draw_23 {l0 : Option Value} {x : Int32} : ok d mX11_draw n0 Q n c w 23 (l0 :: some (.int x) :: ls) st M = ok d mX11_draw n0 Q n c w 24 (l0 :: some (.int x) :: ls) (.int x :: st) M := ok_r rfl rfl
theorem sX11_draw_24 {x : Int32} : ok d mX11_draw n0 Q n c w 24 ls (.int x :: st) M = ok d mX11_draw n0 Q n c w 25 ls (.long x.toInt64 :: st) M := ok_r rfl rfl
theorem sX11_draw_25 {x z : Int64} : ok d mX11_draw n0 Q n c w 25 ls (.long z :: .long x :: st) M = (¬ z = 0 ∧ ok d mX11_draw n0 Q n c w 26 ls (.long (x - x / z * z) :: st) M) := ok_r rfl rfl
theorem sX11_draw_26 {x : Int64} : ok d mX11_draw n0 Q n c w 26 ls (.long x :: st) M = ok d mX11_draw n0 Q n c w 27 ls (.int x.toInt32 :: st) M := ok_r rfl rfl
theorem sX11_draw_27 {x : Int32} : ok d mX11_draw n Q n 0 0 27 ls [.int x] M = Q (some (.int x)) M := ok_reI rfl rfl ⟨rfl, rfl, rfl⟩
theorem eX11_draw {a0 : Nat} {a1 : Int32} {n : Nat} {M : am_M} {Q : am_Q} : am_big (d + 1) mX11_draw [.ref a0, .int a1] n M Q = ok d mX11_draw n Q n 0 0 0 [some (.ref a0), some (.int a1)] [] M := rfl
theorem sX11_happens_0 {x : Nat} : ok d mX11_happens n0 Q n c w 0 (some (.ref x) :: ls) st M = ok d mX11_happens n0 Q n c w 1 (some (.ref x) :: ls) (.ref x :: st) M := ok_r rfl rfl
theorem sX11_happens_1 : ok d mX11_happens n0 Q n c w 1 ls st M = ok d mX11_happens n0 Q n c w 3 ls (.int 10 :: st) M := ok_r rfl (by rw [← bc_10]; rfl)
theorem sX11_happens_3 {b : Nat} {a0 : Int32} : ok d mX11_happens n0 Q n 0 0 3 ls [.int a0, .ref b] M = (am_ob n b 11 ∧ am_big d mX11_draw [.ref b, .int a0] n M (kI fun x M' => ok d mX11_happens n0 Q n 0 0 6 ls (.int x :: []) M')) := ok_vir (y := mX11_happens) (y' := mX11_draw) (pc := 3) (k := 399) (ps := [1693, 1695, 77, 110, 1696]) (c := 0) (w := 0) (st := [.int a0, .ref b]) (as := [.ref b, .int a0]) (rest := []) (b := b) rfl rfl rfl ⟨Nat.le_of_ble_eq_true rfl, Nat.le_of_ble_eq_true rfl, Nat.le_of_ble_eq_true rfl, Nat.le_of_ble_eq_true rfl, Nat.le_of_ble_eq_true rfl⟩ rfl rfl (am_contI (Or.inl rfl) rfl)
theorem sX11_happens_6 {x : Nat} : ok d mX11_happens n0 Q n c w 6 (some (.ref x) :: ls) st M = ok d mX11_happens n0 Q n c w 7 (some (.ref x) :: ls) (.ref x :: st) M := ok_r rfl rfl
theorem sX11_happens_7 {a : Nat} : ok d mX11_happens n0 Q n c w 7 ls (.ref a :: st) M = (am_ob n a 11 ∧ ok d mX11_happens n0 Q n c w 10 ls (.int (gI M a 30) :: st) M) := ok_get (q := (11, 30, 0, false, 1225)) rfl rfl rfl rfl
theorem sX11_happens_10 {x z : Int32} : ok d mX11_happens n0 Q n c w 10 ls (.int z :: .int x :: st) M = ((z ≤ x → ok d mX11_happens n0 Q n c w 105 ls st M) ∧ (¬ (z ≤ x) → ok d mX11_happens n0 Q n c w 13 ls st M)) := ok_ico (pc := 10) (off := 95) (k := .ge) rfl 105 (by decide)
end
