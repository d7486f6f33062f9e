/-! THE ABSTRACT MACHINE: objects by their numbers, three tables of values (ints, longs, references); a method's run as a least fixed point, its calls by depth. -/
abbrev am_M : Type := (Nat → Nat → Int32) × (Nat → Nat → Int64) × (Nat → Nat → Option Nat)
def gI (M : am_M) (a j : Nat) : Int32 := M.1 a j
def gL (M : am_M) (a j : Nat) : Int64 := M.2.1 a j
def gR (M : am_M) (a j : Nat) : Option Nat := M.2.2 a j
def sI (M : am_M) (a j : Nat) (v : Int32) : am_M := (fun b k => if b = a ∧ k = j then v else M.1 b k, M.2)
def sL (M : am_M) (a j : Nat) (v : Int64) : am_M := (M.1, fun b k => if b = a ∧ k = j then v else M.2.1 b k, M.2.2)
def sR (M : am_M) (a j : Nat) (v : Option Nat) : am_M := (M.1, M.2.1, fun b k => if b = a ∧ k = j then v else M.2.2 b k)
def cpI (M : am_M) (a0 sp a dp n : Nat) : am_M := (fun b k => if b = a ∧ dp ≤ k ∧ k < dp + n then M.1 a0 (sp + (k - dp)) else M.1 b k, M.2)
theorem gI_sI (M : am_M) (a j : Nat) (v : Int32) (b k : Nat) : gI (sI M a j v) b k = if b = a ∧ k = j then v else gI M b k := rfl
theorem gI_sL (M : am_M) (a j : Nat) (v : Int64) (b k : Nat) : gI (sL M a j v) b k = gI M b k := rfl
theorem gI_sR (M : am_M) (a j : Nat) (v : Option Nat) (b k : Nat) : gI (sR M a j v) b k = gI M b k := rfl
theorem gL_sI (M : am_M) (a j : Nat) (v : Int32) (b k : Nat) : gL (sI M a j v) b k = gL M b k := rfl
theorem gL_sL (M : am_M) (a j : Nat) (v : Int64) (b k : Nat) : gL (sL M a j v) b k = if b = a ∧ k = j then v else gL M b k := rfl
theorem gL_sR (M : am_M) (a j : Nat) (v : Option Nat) (b k : Nat) : gL (sR M a j v) b k = gL M b k := rfl
theorem gR_sI (M : am_M) (a j : Nat) (v : Int32) (b k : Nat) : gR (sI M a j v) b k = gR M b k := rfl
theorem gR_sL (M : am_M) (a j : Nat) (v : Int64) (b k : Nat) : gR (sL M a j v) b k = gR M b k := rfl
theorem gR_sR (M : am_M) (a j : Nat) (v : Option Nat) (b k : Nat) : gR (sR M a j v) b k = if b = a ∧ k = j then v else gR M b k := rfl
theorem gI_cpI (M : am_M) (a0 sp a dp n b k : Nat) : gI (cpI M a0 sp a dp n) b k = if b = a ∧ dp ≤ k ∧ k < dp + n then gI M a0 (sp + (k - dp)) else gI M b k := rfl
theorem gL_cpI (M : am_M) (a0 sp a dp n b k : Nat) : gL (cpI M a0 sp a dp n) b k = gL M b k := rfl
theorem gR_cpI (M : am_M) (a0 sp a dp n b k : Nat) : gR (cpI M a0 sp a dp n) b k = gR M b k := rfl
/-- the texts: the law's labels, its letters, the items, the sorts -/
def am_str : List (List Nat) := [[121], [119, 105, 120, 110, 98, 116], [107, 114], [112, 116, 99, 106, 104]]
abbrev am_S0 : Nat := 1000000
abbrev am_SC : Nat := 2000000
def am_rv (r : Option Nat) : Value := va_rf r
def am_ob (n a ci : Nat) : Prop := a < n ∧ am_T a = (0, ci)
/-- a place of an array: of kind kd, or of the script -/
def am_in (n : Nat) (M : am_M) (a kd : Nat) (i : Int32) : Prop := (a < n ∧ (am_T a).1 = kd ∧ vp_in i (am_T a).2) ∨ (a = am_SC ∧ kd = 1 ∧ vp_in i (gI M am_SC 1000).toNatClampNeg)
def am_iw (n a kd : Nat) (i : Int32) : Prop := a < n ∧ (am_T a).1 = kd ∧ vp_in i (am_T a).2
abbrev am_P : Type := Nat → Nat → Nat → Nat → List (Option Value) → List Value → am_M → Prop
abbrev am_Q : Type := Option Value → am_M → Prop
abbrev am_C : Type := am_Y → List Value → Nat → am_M → am_Q → Prop
def am_ldI (ls : List (Option Value)) (k : Nat) (f : Int32 → Prop) : Prop := match ls.getD k none with
  | some (.int x) => f x
  | _ => False
def am_ldL (ls : List (Option Value)) (k : Nat) (f : Int64 → Prop) : Prop := match ls.getD k none with
  | some (.long x) => f x
  | _ => False
def am_ldR (ls : List (Option Value)) (k : Nat) (f : Nat → Prop) : Prop := match ls.getD k none with
  | some (.ref x) => f x
  | _ => False
def am_kl (o : Option Value) : Option Value := match o with
  | some v => if v.category = 2 then none else some v
  | none => none
def am_st (ls : List (Option Value)) (k : Nat) (v : Value) : List (Option Value) := match k with
  | 0 => ls.set 0 (some v)
  | k + 1 => (ls.set (k + 1) (some v)).set k (am_kl (ls.getD k none))
def am_st2 (ls : List (Option Value)) (k : Nat) (v : Value) : List (Option Value) := (am_st ls k v).set (k + 1) none
def am_i1 (st : List Value) (f : Int32 → List Value → Prop) : Prop := match st with
  | .int x :: r => f x r
  | _ => False
def am_i2 (st : List Value) (f : Int32 → Int32 → List Value → Prop) : Prop := match st with
  | .int y :: .int x :: r => f x y r
  | _ => False
def am_l1 (st : List Value) (f : Int64 → List Value → Prop) : Prop := match st with
  | .long x :: r => f x r
  | _ => False
def am_l2 (st : List Value) (f : Int64 → Int64 → List Value → Prop) : Prop := match st with
  | .long y :: .long x :: r => f x y r
  | _ => False
def am_li (st : List Value) (f : Int64 → Int32 → List Value → Prop) : Prop := match st with
  | .int y :: .long x :: r => f x y r
  | _ => False
def am_r1 (st : List Value) (f : Nat → List Value → Prop) : Prop := match st with
  | .ref a :: r => f a r
  | _ => False
def am_ri (st : List Value) (f : Nat → Int32 → List Value → Prop) : Prop := match st with
  | .int i :: .ref a :: r => f a i r
  | _ => False
def am_rii (st : List Value) (f : Nat → Int32 → Int32 → List Value → Prop) : Prop := match st with
  | .int x :: .int i :: .ref a :: r => f a i x r
  | _ => False
def am_ril (st : List Value) (f : Nat → Int32 → Int64 → List Value → Prop) : Prop := match st with
  | .long x :: .int i :: .ref a :: r => f a i x r
  | _ => False
def am_rir (st : List Value) (f : Nat → Int32 → Nat → List Value → Prop) : Prop := match st with
  | .ref x :: .int i :: .ref a :: r => f a i x r
  | _ => False
def am_cpy (st : List Value) (f : Nat → Int32 → Nat → Int32 → Int32 → List Value → Prop) : Prop := match st with
  | .int k :: .int dp :: .ref a :: .int sp :: .ref a0 :: r => f a0 sp a dp k r
  | _ => False
def am_put (kd : Nat) (st : List Value) (M : am_M) (k : Nat) (f : Nat → am_M → List Value → Prop) : Prop := match kd, st with
  | 0, .int x :: .ref a :: r => f a (sI M a k x) r
  | 3, .int x :: .ref a :: r => (x = 0 ∨ x = 1) ∧ f a (sI M a k x) r
  | 1, .long x :: .ref a :: r => f a (sL M a k x) r
  | 2, .ref b :: .ref a :: r => f a (sR M a k (some b)) r
  | _, _ => False
def am_fv (kd : Nat) (M : am_M) (a k : Nat) : Value := match kd with
  | 1 => .long (gL M a k)
  | 2 => am_rv (gR M a k)
  | _ => .int (gI M a k)
def am_cmp (k : ClassFile.Cond) (x y : Int32) : Prop := match k with
  | .eq => x = y
  | .ne => ¬ x = y
  | .lt => x < y
  | .ge => y ≤ x
  | .gt => y < x
  | .le => x ≤ y
def am_tg (pc : Nat) (off : Int) : Nat := ((pc : Int) + off).toNat
def am_br (k : Prop) (pc : Nat) (off : Int) (F : Nat → Prop) (len : Nat) : Prop := (pc : Int) + off = (am_tg pc off : Int) ∧ (k → F (am_tg pc off)) ∧ (¬ k → F (pc + len))
/-- the cases of a table, the first of them k -/
def am_tsw (x : Int32) (pc : Nat) (F : Nat → Prop) : Int → List Int → Prop
  | _, [] => True
  | k, o :: r => ((pc : Int) + o = (am_tg pc o : Int) ∧ (x = Int32.ofInt k → F (am_tg pc o))) ∧ am_tsw x pc F (k + 1) r
def am_lsw (x : Int32) (pc : Nat) (F : Nat → Prop) : List (Int × Int) → Prop
  | [] => True
  | q :: r => ((Int32.ofInt q.1).toInt = q.1 ∧ (pc : Int) + q.2 = (am_tg pc q.2 : Int) ∧ (x = Int32.ofInt q.1 → F (am_tg pc q.2))) ∧ am_lsw x pc F r
def am_lno (x : Int32) : List (Int × Int) → Prop
  | [] => True
  | q :: r => ¬ x = Int32.ofInt q.1 ∧ am_lno x r
def am_cont (y' : am_Y) (P : am_P) (n c w pc : Nat) (ls : List (Option Value)) (rest : List Value) : am_Q := fun r M' => match am_rt y', r with
  | none, none => P (n + (am_al y').1) (c + (am_al y').2.1) (w + (am_al y').2.2) pc ls rest M'
  | some .long, some (.long x) => P (n + (am_al y').1) (c + (am_al y').2.1) (w + (am_al y').2.2) pc ls (.long x :: rest) M'
  | some .int, some (.int x) => P (n + (am_al y').1) (c + (am_al y').2.1) (w + (am_al y').2.2) pc ls (.int x :: rest) M'
  | some .boolean, some (.int x) => P (n + (am_al y').1) (c + (am_al y').2.1) (w + (am_al y').2.2) pc ls (.int x :: rest) M'
  | _, _ => False
def am_inv (call : am_C) (y y' : am_Y) (P : am_P) (k n c w pc : Nat) (ls : List (Option Value)) (st : List Value) (M : am_M) : Prop :=
  (k ≤ st.length ∧ ((st.drop k).map fun v => v.category).sum ≤ 8 ∧ ((st.take k).map fun v => v.category).sum ≤ am_mx y' ∧ c + (am_al y').2.1 ≤ (am_al y).2.1 ∧ w + (am_al y').2.2 ≤ (am_al y).2.2) ∧
  call y' (st.take k).reverse n M (am_cont y' P n c w (pc + 3) ls (st.drop k))
def am_cpok (n a0 : Nat) (sp : Int32) (a : Nat) (dp k : Int32) : Prop := a0 < n ∧ a < n ∧ (am_T a0).1 = 1 ∧ (am_T a).1 = 1 ∧ ¬ sp < 0 ∧ ¬ dp < 0 ∧ ¬ k < 0 ∧ sp.toNatClampNeg + k.toNatClampNeg ≤ (am_T a0).2 ∧ dp.toNatClampNeg + k.toNatClampNeg ≤ (am_T a).2
def am_sck (a : Nat) (i : Int32) : Prop := am_S0 ≤ a ∧ a < am_S0 + 4 ∧ vp_in i (am_str.getD (a - am_S0) []).length
def am_vir (call : am_C) (y : am_Y) (P : am_P) (q : Option (Nat × am_Y × List Nat)) (n c w pc : Nat) (ls : List (Option Value)) (st : List Value) (M : am_M) : Prop := match q with
  | some (0, y', _) => (∃ b, (st.drop (am_np y')).head? = some (.ref b) ∧ am_ob n b (am_cn y')) ∧ am_inv call y y' P (am_np y' + 1) n c w pc ls st M
  | some (7, _, _) => am_r1 st fun a r => (am_S0 ≤ a ∧ a < am_S0 + 4) ∧ (r.map fun v => v.category).sum ≤ 8 ∧ P n c w (pc + 3) ls (.int (nI (am_str.getD (a - am_S0) []).length) :: r) M
  | some (8, _, _) => am_ri st fun a i r => am_sck a i ∧ (r.map fun v => v.category).sum ≤ 8 ∧ P n c w (pc + 3) ls (.int (nI ((am_str.getD (a - am_S0) []).getD i.toNatClampNeg 0)) :: r) M
  | _ => False
def am_sta (call : am_C) (y : am_Y) (P : am_P) (q : Option (Nat × am_Y × List Nat)) (n c w pc : Nat) (ls : List (Option Value)) (st : List Value) (M : am_M) : Prop := match q with
  | some (1, y', _) => am_inv call y y' P (am_np y') n c w pc ls st M
  | some (3, y', _) => am_inv call y y' P (am_np y') n c w pc ls st M
  | some (9, y', _) => am_inv call y y' P (am_np y') n c w pc ls st M
  | some (6, _, _) => am_cpy st fun a0 sp a dp k r => am_cpok n a0 sp a dp k ∧ (r.map fun v => v.category).sum ≤ 8 ∧ P n c w (pc + 3) ls r (cpI M a0 sp.toNatClampNeg a dp.toNatClampNeg k.toNatClampNeg)
  | some (10, _, _) => am_i2 st fun x y r => (r.map fun v => v.category).sum ≤ 8 ∧ P n c w (pc + 3) ls (.int (if x < y then y else x) :: r) M
  | some (11, _, _) => am_i2 st fun x y r => (r.map fun v => v.category).sum ≤ 8 ∧ P n c w (pc + 3) ls (.int (if y < x then y else x) :: r) M
  | some (12, _, _) => am_i1 st fun x r => (r.map fun v => v.category).sum ≤ 8 ∧ P n c w (pc + 3) ls (.int (if 0 ≤ x then x else 0 - x) :: r) M
  | some (13, _, _) => am_l2 st fun x y r => (r.map fun v => v.category).sum ≤ 8 ∧ P n c w (pc + 3) ls (.long (if y < x then x else y) :: r) M
  | some (14, _, _) => am_l2 st fun x y r => (r.map fun v => v.category).sum ≤ 8 ∧ P n c w (pc + 3) ls (.long (if y < x then y else x) :: r) M
  | _ => False
def am_spe (call : am_C) (y : am_Y) (P : am_P) (q : Option (Nat × am_Y × List Nat)) (n c w pc : Nat) (ls : List (Option Value)) (st : List Value) (M : am_M) : Prop := match q with
  | some (2, y', _) => (∃ b, (st.drop (am_np y')).head? = some (.ref b)) ∧ am_inv call y y' P (am_np y' + 1) n c w pc ls st M
  | some (4, y', _) => (∃ b, (st.drop (am_np y')).head? = some (.ref b)) ∧ am_inv call y y' P (am_np y' + 1) n c w pc ls st M
  | some (5, _, _) => am_r1 st fun _ r => (r.map fun v => v.category).sum ≤ 8 ∧ P n c w (pc + 3) ls r M
  | _ => False
def am_atk (t : ArrayType) : Nat := match t with
  | .int => 1
  | .byte => 2
  | .boolean => 3
  | .long => 4
  | _ => 10
/-- an array is made: its kind and length are those of the next number -/
def am_mk (y : am_Y) (P : am_P) (kd : Nat) (x : Int32) (n c w pc : Nat) (ls : List (Option Value)) (r : List Value) (M : am_M) : Prop :=
  (n < am_NN ∧ am_T n = (kd, x.toNatClampNeg) ∧ ¬ x < 0 ∧ x.toNatClampNeg ≤ 65536 ∧ c + 1 ≤ (am_al y).2.1 ∧ w + x.toNatClampNeg ≤ (am_al y).2.2) ∧ P (n + 1) (c + 1) (w + x.toNatClampNeg) pc ls (.ref n :: r) M
def am_anw (ci : Nat) : Nat := match ci with
  | 0 => 5
  | 8 => 6
  | 2 => 7
  | _ => 10
def am_ret (y : am_Y) (n0 n c w : Nat) : Prop := n = n0 + (am_al y).1 ∧ c = (am_al y).2.1 ∧ w = (am_al y).2.2
def am_ire (y : am_Y) (Q : am_Q) (n0 n c w : Nat) (st : List Value) (M : am_M) : Prop := match st with
  | [.int v] => (am_ret y n0 n c w ∧ (am_rt y = some .int ∨ (am_rt y = some .boolean ∧ (v = 0 ∨ v = 1)))) ∧ Q (some (.int v)) M
  | _ => False
def am_lre (y : am_Y) (Q : am_Q) (n0 n c w : Nat) (st : List Value) (M : am_M) : Prop := match st with
  | [.long v] => (am_ret y n0 n c w ∧ am_rt y = some .long) ∧ Q (some (.long v)) M
  | _ => False
def am_vre (y : am_Y) (Q : am_Q) (n0 n c w : Nat) (st : List Value) (M : am_M) : Prop := match st with
  | [] => (am_ret y n0 n c w ∧ am_rt y = none) ∧ Q none M
  | _ => False
def am_du2 (st : List Value) (f : List Value → Prop) : Prop := match st with
  | .int a :: .int b :: r => f (.int a :: .int b :: .int a :: .int b :: r)
  | .int a :: .ref b :: r => f (.int a :: .ref b :: .int a :: .ref b :: r)
  | _ => False
def am_du1 (st : List Value) (f : List Value → Prop) : Prop := match st with
  | .int a :: r => f (.int a :: .int a :: r)
  | .ref a :: r => f (.ref a :: .ref a :: r)
  | _ => False
def am_po1 (st : List Value) (f : List Value → Prop) : Prop := match st with
  | .int _ :: r => f r
  | .ref _ :: r => f r
  | _ => False
def am_opt {α : Type} (o : Option α) (f : α → Prop) : Prop := match o with
  | some x => f x
  | none => False
def am_ldc (c k : Nat) (f : Value → Prop) : Prop := match am_ck c k, am_cs c k with
  | some q, _ => f (.int q.1)
  | none, some s => f (.ref (am_S0 + s))
  | none, none => False
def am_ini (y : am_Y) : Bool := (am_nm y).name == "<init>"
def am_len (M : am_M) (a : Nat) : Int32 := if a = am_SC then gI M am_SC 1000 else nI (am_T a).2
def am_wpi (call : am_C) (y : am_Y) (n0 : Nat) (Q : am_Q) (P : am_P) (i : Instr) (len n c w pc : Nat) (ls : List (Option Value)) (st : List Value) (M : am_M) : Prop := match i with
  | .iconst k => P n c w (pc + len) ls (.int (Int32.ofInt k) :: st) M
  | .bipush k => P n c w (pc + len) ls (.int (Int8.ofInt k).toInt32 :: st) M
  | .sipush k => P n c w (pc + len) ls (.int (Int16.ofInt k).toInt32 :: st) M
  | .lconst k => P n c w (pc + len) ls (.long (Int64.ofNat k.val) :: st) M
  | .iload k => am_ldI ls k fun x => P n c w (pc + len) ls (.int x :: st) M
  | .iload_n k => am_ldI ls k.val fun x => P n c w (pc + len) ls (.int x :: st) M
  | .lload k => am_ldL ls k fun x => P n c w (pc + len) ls (.long x :: st) M
  | .lload_n k => am_ldL ls k.val fun x => P n c w (pc + len) ls (.long x :: st) M
  | .aload k => am_ldR ls k fun x => P n c w (pc + len) ls (.ref x :: st) M
  | .aload_n k => am_ldR ls k.val fun x => P n c w (pc + len) ls (.ref x :: st) M
  | .istore k => am_i1 st fun x r => k < am_mx y ∧ P n c w (pc + len) (am_st ls k (.int x)) r M
  | .istore_n k => am_i1 st fun x r => k.val < am_mx y ∧ P n c w (pc + len) (am_st ls k.val (.int x)) r M
  | .lstore k => am_l1 st fun x r => k + 1 < am_mx y ∧ P n c w (pc + len) (am_st2 ls k (.long x)) r M
  | .lstore_n k => am_l1 st fun x r => k.val + 1 < am_mx y ∧ P n c w (pc + len) (am_st2 ls k.val (.long x)) r M
  | .astore k => am_r1 st fun x r => k < am_mx y ∧ P n c w (pc + len) (am_st ls k (.ref x)) r M
  | .astore_n k => am_r1 st fun x r => k.val < am_mx y ∧ P n c w (pc + len) (am_st ls k.val (.ref x)) r M
  | .iinc k j => am_ldI ls k fun x => (len = 3 ∧ k < am_mx y) ∧ P n c w (pc + len) (am_st ls k (.int (x + Int32.ofInt j))) st M
  | .iadd => am_i2 st fun x y r => P n c w (pc + len) ls (.int (x + y) :: r) M
  | .isub => am_i2 st fun x y r => P n c w (pc + len) ls (.int (x - y) :: r) M
  | .imul => am_i2 st fun x y r => P n c w (pc + len) ls (.int (x * y) :: r) M
  | .iand => am_i2 st fun x y r => P n c w (pc + len) ls (.int (x &&& y) :: r) M
  | .ior => am_i2 st fun x y r => P n c w (pc + len) ls (.int (x ||| y) :: r) M
  | .ixor => am_i2 st fun x y r => P n c w (pc + len) ls (.int (x ^^^ y) :: r) M
  | .idiv => am_i2 st fun x y r => ¬ y = 0 ∧ P n c w (pc + len) ls (.int (x / y) :: r) M
  | .irem => am_i2 st fun x y r => ¬ y = 0 ∧ P n c w (pc + len) ls (.int (x - x / y * y) :: r) M
  | .ishl => am_i2 st fun x y r => P n c w (pc + len) ls (.int (x <<< (y &&& 31)) :: r) M
  | .ishr => am_i2 st fun x y r => P n c w (pc + len) ls (.int (x >>> (y &&& 31)) :: r) M
  | .iushr => am_i2 st fun x y r => P n c w (pc + len) ls (.int (x.toUInt32 >>> (y.toUInt32 &&& Int32.toUInt32 31)).toInt32 :: r) M
  | .ineg => am_i1 st fun x r => P n c w (pc + len) ls (.int (-x) :: r) M
  | .ladd => am_l2 st fun x y r => P n c w (pc + len) ls (.long (x + y) :: r) M
  | .lsub => am_l2 st fun x y r => P n c w (pc + len) ls (.long (x - y) :: r) M
  | .lmul => am_l2 st fun x y r => P n c w (pc + len) ls (.long (x * y) :: r) M
  | .land => am_l2 st fun x y r => P n c w (pc + len) ls (.long (x &&& y) :: r) M
  | .lor => am_l2 st fun x y r => P n c w (pc + len) ls (.long (x ||| y) :: r) M
  | .ldiv => am_l2 st fun x y r => ¬ y = 0 ∧ P n c w (pc + len) ls (.long (x / y) :: r) M
  | .lrem => am_l2 st fun x y r => ¬ y = 0 ∧ P n c w (pc + len) ls (.long (x - x / y * y) :: r) M
  | .lcmp => am_l2 st fun x y r => P n c w (pc + len) ls (.int (lg_cmp x y) :: r) M
  | .lshl => am_li st fun x y r => P n c w (pc + len) ls (.long (x <<< (y.toInt64 &&& 63)) :: r) M
  | .lushr => am_li st fun x y r => P n c w (pc + len) ls (.long (x.toUInt64 >>> (y.toInt64.toUInt64 &&& Int64.toUInt64 63)).toInt64 :: r) M
  | .i2l => am_i1 st fun x r => P n c w (pc + len) ls (.long x.toInt64 :: r) M
  | .l2i => am_l1 st fun x r => P n c w (pc + len) ls (.int x.toInt32 :: r) M
  | .i2b => am_i1 st fun x r => P n c w (pc + len) ls (.int x.toInt8.toInt32 :: r) M
  | .dup => am_du1 st fun r => P n c w (pc + len) ls r M
  | .dup2 => am_du2 st fun r => P n c w (pc + len) ls r M
  | .pop => am_po1 st fun r => P n c w (pc + len) ls r M
  | .ifCond k off => am_i1 st fun x r => am_br (am_cmp k x 0) pc off (fun t => P n c w t ls r M) len
  | .if_icmp k off => am_i2 st fun x y r => am_br (am_cmp k x y) pc off (fun t => P n c w t ls r M) len
  | .goto off => (pc : Int) + off = (am_tg pc off : Int) ∧ P n c w (am_tg pc off) ls st M
  | .tableswitch dflt lo hi offs => am_i1 st fun x r => ((hi - lo + 1).toNat = offs.size ∧ lo ≤ hi ∧ -1000 ≤ lo ∧ hi ≤ 1000 ∧ (pc : Int) + dflt = (am_tg pc dflt : Int)) ∧ am_tsw x pc (fun t => P n c w t ls r M) lo offs.toList ∧ (x.toInt < lo ∨ hi < x.toInt → P n c w (am_tg pc dflt) ls r M)
  | .lookupswitch dflt ps => am_i1 st fun x r => ((ps.toList.zip (ps.toList.drop 1)).all (fun (a, next) => a.1 < next.1) = true ∧ (pc : Int) + dflt = (am_tg pc dflt : Int)) ∧ am_lsw x pc (fun t => P n c w t ls r M) ps.toList ∧ (am_lno x ps.toList → P n c w (am_tg pc dflt) ls r M)
  | .ldc k => am_ldc (am_cn y) k fun v => P n c w (pc + len) ls (v :: st) M
  | .ldc_w k => am_ldc (am_cn y) k fun v => P n c w (pc + len) ls (v :: st) M
  | .ldc2_w k => am_opt (am_cj (am_cn y) k) fun q => P n c w (pc + len) ls (.long q.1 :: st) M
  | .getfield k => am_opt (am_fl (am_cn y) k) fun q => am_r1 st fun a r => am_ob n a q.1 ∧ P n c w (pc + len) ls (am_fv q.2.2.1 M a q.2.1 :: r) M
  | .putfield k => am_opt (am_fl (am_cn y) k) fun q => am_put q.2.2.1 st M q.2.1 fun a M' r => (am_ob n a q.1 ∧ (q.2.2.2.1 = true → am_ini y = true ∧ am_cn y = q.1)) ∧ P n c w (pc + len) ls r M'
  | .iaload => am_ri st fun a i r => am_in n M a 1 i ∧ P n c w (pc + len) ls (.int (gI M a i.toNatClampNeg) :: r) M
  | .baload => am_ri st fun a i r => (am_iw n a 2 i ∨ am_iw n a 3 i) ∧ P n c w (pc + len) ls (.int (gI M a i.toNatClampNeg) :: r) M
  | .laload => am_ri st fun a i r => am_iw n a 4 i ∧ P n c w (pc + len) ls (.long (gL M a i.toNatClampNeg) :: r) M
  | .aaload => am_ri st fun a i r => (am_iw n a 5 i ∨ am_iw n a 6 i ∨ am_iw n a 7 i) ∧ P n c w (pc + len) ls (am_rv (gR M a i.toNatClampNeg) :: r) M
  | .iastore => am_rii st fun a i x r => am_iw n a 1 i ∧ P n c w (pc + len) ls r (sI M a i.toNatClampNeg x)
  | .bastore => am_rii st fun a i x r => (am_iw n a 2 i ∧ P n c w (pc + len) ls r (sI M a i.toNatClampNeg x.toInt8.toInt32)) ∨ (am_iw n a 3 i ∧ (x = 0 ∨ x = 1) ∧ P n c w (pc + len) ls r (sI M a i.toNatClampNeg x))
  | .lastore => am_ril st fun a i x r => am_iw n a 4 i ∧ P n c w (pc + len) ls r (sL M a i.toNatClampNeg x)
  | .aastore => am_rir st fun a i b r => ((am_iw n a 5 i ∧ am_ob n b 0) ∨ (am_iw n a 6 i ∧ am_ob n b 8) ∨ (am_iw n a 7 i ∧ am_ob n b 2)) ∧ P n c w (pc + len) ls r (sR M a i.toNatClampNeg (some b))
  | .arraylength => am_r1 st fun a r => (a = am_SC ∨ (a < n ∧ 1 ≤ (am_T a).1 ∧ (am_T a).1 ≤ 7)) ∧ P n c w (pc + len) ls (.int (am_len M a) :: r) M
  | .new k => am_opt (am_nl (am_cn y) k) fun q => (n < am_NN ∧ am_T n = (0, q.1) ∧ c + 1 ≤ (am_al y).2.1 ∧ w + q.2.1 ≤ (am_al y).2.2) ∧ P (n + 1) (c + 1) (w + q.2.1) (pc + len) ls (.ref n :: st) M
  | .newarray t => am_i1 st fun x r => am_mk y P (am_atk t) x n c w (pc + len) ls r M
  | .anewarray k => am_opt (am_nl (am_cn y) k) fun q => am_i1 st fun x r => am_mk y P (am_anw q.1) x n c w (pc + len) ls r M
  | .invokevirtual k => am_vir call y P (am_ml (am_cn y) k) n c w pc ls st M
  | .invokestatic k => am_sta call y P (am_ml (am_cn y) k) n c w pc ls st M
  | .invokespecial k => am_spe call y P (am_ml (am_cn y) k) n c w pc ls st M
  | .ireturn => am_ire y Q n0 n c w st M
  | .lreturn => am_lre y Q n0 n c w st M
  | .return_ => am_vre y Q n0 n c w st M
  | _ => False
def am_wp (call : am_C) (y : am_Y) (n0 : Nat) (Q : am_Q) (P : am_P) (n c w pc : Nat) (ls : List (Option Value)) (st : List Value) (M : am_M) : Prop := match am_lk (am_cd y) pc with
  | some (i, len) => am_wpi call y n0 Q P i len n c w pc ls st M
  | none => False
def am_ok (call : am_C) (y : am_Y) (n0 : Nat) (Q : am_Q) : am_P := fun n c w pc ls st M =>
  ∀ P : am_P, (∀ n c w pc ls st M, am_wp call y n0 Q P n c w pc ls st M → P n c w pc ls st M) → P n c w pc ls st M
def am_ent (k : Nat) (as : List Value) : List (Option Value) := (as.flatMap fun v => if v.category = 2 then [some v, none] else [some v]) ++ List.replicate (k - (as.map fun v => v.category).sum) none
/-- the law's own 'apprentice': x.apprentice(p0, p1) into out, or 1 where it throws -/
def am_app (as : List Value) (n : Nat) (M : am_M) (Q : am_Q) : Prop := match as with
  | [.ref x, .int p0, .int p1, .ref o] => (x = 0 ∧ o = 487 ∧ am_NN ≤ n ∧ gR M 0 1 = some 3 ∧ gR M 3 1 = some 8 ∧ gR M 3 2 = some 9 ∧ (gI M 3 3).toInt ≤ 4) ∧
    (0 ≤ p0 ∧ p0 < gI M 3 3 ∧ 0 ≤ p1 ∧ p1 ≤ 1 → Q (some (.int 0)) (sL M 487 0 (if p1 = 0 then gI M 8 p0.toNatClampNeg else gI M 9 p0.toNatClampNeg).toInt64)) ∧
    (¬ (0 ≤ p0 ∧ p0 < gI M 3 3 ∧ 0 ≤ p1 ∧ p1 ≤ 1) → Q (some (.int 1)) M)
  | _ => False
def am_big : Nat → am_C
  | 0 => fun _ _ _ _ _ => False
  | d + 1 => fun y as n M Q => cond (am_sp y) (am_app as n M Q) (am_ok (am_big d) y n Q n 0 0 0 (am_ent (am_mx y) as) [] M)
