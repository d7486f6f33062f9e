/-! loops: what holds of every step holds from the first place to the last -/
theorem loopU {P : Nat → Prop} {lo n : Nat} (hl : lo ≤ n) (h : ∀ k, lo ≤ k → k < n → P k = P (k + 1)) : P lo = P n := by
  obtain ⟨j, rfl⟩ : ∃ j, n = lo + j := ⟨n - lo, by omega⟩
  induction j with
  | zero => rfl
  | succ j ih =>
    rw [ih (by omega) (fun k h1 h2 => h k h1 (by omega)), h (lo + j) (by omega) (by omega)]
    rfl
theorem loop0 {P : Nat → Prop} {n : Nat} (h : ∀ k, k < n → P k = P (k + 1)) : P 0 = P n := loopU (Nat.zero_le n) (fun k _ hk => h k hk)
/-- with something that each step leaves behind -/
theorem loopS {α : Type} {P : Nat → α → Prop} {n : Nat} (h : ∀ k s, k < n → ∃ s', P k s = P (k + 1) s') (s : α) : ∃ s', P 0 s = P n s' := by
  induction n with
  | zero => exact ⟨s, rfl⟩
  | succ n ih =>
    obtain ⟨s1, e1⟩ := ih (fun k s hk => h k s (by omega))
    obtain ⟨s2, e2⟩ := h n s1 (by omega)
    exact ⟨s2, e1.trans e2⟩
/-- downwards: from n to 0 -/
theorem loopD {P : Nat → Prop} {n : Nat} (h : ∀ k, k < n → P (k + 1) = P k) : P n = P 0 := (loop0 (P := fun k => P k) (fun k hk => (h k hk).symm)).symm
/-- the first place from lo on, of j, at which c holds -/
def fnd (c : Nat → Bool) : Nat → Nat → Option Nat
  | _, 0 => none
  | lo, j + 1 => if c lo = true then some lo else fnd c (lo + 1) j
theorem loopF {P E : Nat → Prop} {c : Nat → Bool} {lo j : Nat} (h : ∀ k, lo ≤ k → k < lo + j → P k = if c k = true then E k else P (k + 1)) : P lo = match fnd c lo j with
  | some k => E k
  | none => P (lo + j) := by
  induction j generalizing lo with
  | zero => rfl
  | succ j ih =>
    rw [h lo (by omega) (by omega)]
    unfold fnd
    by_cases hc : c lo = true
    · rw [if_pos hc, if_pos hc]
    · rw [if_neg hc, if_neg hc, ih (fun k h1 h2 => h k (by omega) (by omega)), show lo + (j + 1) = lo + 1 + j by omega]
/-- the first L places of an array filled anew -/
def fl (M : am_M) (a L : Nat) (f : Nat → Int32) : am_M := (fun b k => if b = a ∧ k < L then f k else M.1 b k, M.2)
section
variable {M N : am_M} {a b j k L : Nat} {f g : Nat → Int32} {v w : Int32}
theorem gI_fl (h : k < L) : gI (fl M a L f) a k = f k := by show (if a = a ∧ k < L then f k else _) = _; rw [if_pos ⟨rfl, h⟩]
theorem gI_fl_ge (h : L ≤ k) : gI (fl M a L f) b k = gI M b k := by show (if b = a ∧ k < L then f k else _) = _; rw [if_neg (by omega)]; rfl
theorem gI_fn (h : b ≠ a) : gI (fl M a L f) b k = gI M b k := by show (if b = a ∧ k < L then f k else _) = _; rw [if_neg (fun q => h q.1)]; rfl
theorem gI_fl' : gI (fl M a L f) b k = if b = a ∧ k < L then f k else gI M b k := rfl
theorem gR_fl : gR (fl M a L f) b k = gR M b k := rfl
theorem gL_fl : gL (fl M a L f) b k = gL M b k := rfl
theorem gL_e {v : Int64} : gL (sL M a j v) a j = v := by rw [gL_sL, if_pos ⟨rfl, rfl⟩]
theorem gL_o {v : Int64} (h : b ≠ a) : gL (sL M a j v) b k = gL M b k := by rw [gL_sL, if_neg (fun q => h q.1)]
theorem gL_j {v : Int64} (h : k ≠ j) : gL (sL M a j v) a k = gL M a k := by rw [gL_sL, if_neg (fun q => h q.2)]
theorem gR_e {v : Option Nat} : gR (sR M a j v) a j = v := by rw [gR_sR, if_pos ⟨rfl, rfl⟩]
theorem gR_o {v : Option Nat} (h : b ≠ a) : gR (sR M a j v) b k = gR M b k := by rw [gR_sR, if_neg (fun q => h q.1)]
theorem gR_j {v : Option Nat} (h : k ≠ j) : gR (sR M a j v) a k = gR M a k := by rw [gR_sR, if_neg (fun q => h q.2)]
theorem sI_fl (h : j < L) : sI (fl M a L f) a j v = fl M a L (fun k => if k = j then v else f k) := M_ext (fun b k => by
  rw [gI_sI, gI_fl', gI_fl']
  by_cases h1 : b = a ∧ k = j
  · rw [if_pos h1, if_pos ⟨h1.1, by omega⟩, if_pos h1.2]
  · rw [if_neg h1]
    by_cases h2 : b = a ∧ k < L
    · rw [if_pos h2, if_pos h2, if_neg (fun q => h1 ⟨h2.1, q⟩)]
    · rw [if_neg h2, if_neg h2]) (fun _ _ => rfl) (fun _ _ => rfl)
theorem fl_fl : fl (fl M a L f) a L g = fl M a L g := M_ext (fun b k => by
  rw [gI_fl', gI_fl', gI_fl']; split <;> rfl) (fun _ _ => rfl) (fun _ _ => rfl)
theorem fl_congr (h : ∀ k, k < L → f k = g k) : fl M a L f = fl M a L g := M_ext (fun b k => by
  rw [gI_fl', gI_fl']
  split
  · rename_i q; rw [h k q.2]
  · rfl) (fun _ _ => rfl) (fun _ _ => rfl)
theorem fl_id (h : ∀ k, k < L → f k = gI M a k) : fl M a L f = M := M_ext (fun b k => by
  rw [gI_fl']
  split
  · rename_i q; rw [h k q.2, q.1]
  · rfl) (fun _ _ => rfl) (fun _ _ => rfl)
theorem fl_com (h : a ≠ b) {L' : Nat} : fl (fl M a L f) b L' g = fl (fl M b L' g) a L f := M_ext (fun c k => by
  rw [gI_fl', gI_fl', gI_fl', gI_fl']
  by_cases h1 : c = a ∧ k < L
  · have h2 : ¬ (c = b ∧ k < L') := fun q => h (h1.1.symm.trans q.1)
    rw [if_neg h2, if_pos h1, if_pos h1]
  · rw [if_neg h1, if_neg h1]) (fun _ _ => rfl) (fun _ _ => rfl)
theorem sI_com (h : a ≠ b ∨ j ≠ k) : sI (sI M a j v) b k w = sI (sI M b k w) a j v := M_ext (fun c i => by
  rw [gI_sI, gI_sI, gI_sI, gI_sI]
  by_cases h1 : c = a ∧ i = j
  · rw [if_neg (by omega), if_pos h1, if_pos h1]
  · rw [if_neg h1, if_neg h1]) (fun _ _ => rfl) (fun _ _ => rfl)
theorem sI_flc (h : b ≠ a) : sI (fl M a L f) b j v = fl (sI M b j v) a L f := M_ext (fun c k => by
  rw [gI_sI, gI_fl', gI_fl', gI_sI]
  by_cases h1 : c = a ∧ k < L
  · rw [if_neg (by omega), if_pos h1, if_pos h1]
  · rw [if_neg h1, if_neg h1]) (fun _ _ => rfl) (fun _ _ => rfl)
theorem WR_sI (h : WR M) : WR (sI M a j v) := h
theorem WR_fl (h : WR M) : WR (fl M a L f) := h
theorem WR_sL {v : Int64} (h : WR M) : WR (sL M a j v) := h
end
/-- nothing but the places X has changed; the references that never change stand -/
def Fw (X : Nat → Nat → Prop) (M N : am_M) : Prop := (∀ b j, ¬ X b j → gI N b j = gI M b j ∧ gL N b j = gL M b j ∧ gR N b j = gR M b j) ∧ (WR M → WR N)
section
variable {X Y : Nat → Nat → Prop} {M N O : am_M} {a j : Nat} {v : Int32}
theorem Fw.rf : Fw X M M := ⟨fun _ _ _ => ⟨rfl, rfl, rfl⟩, fun h => h⟩
theorem Fw.tr (h1 : Fw X M N) (h2 : Fw X N O) : Fw X M O := ⟨fun b j hb => ⟨(h2.1 b j hb).1.trans (h1.1 b j hb).1, (h2.1 b j hb).2.1.trans (h1.1 b j hb).2.1, (h2.1 b j hb).2.2.trans (h1.1 b j hb).2.2⟩, fun h => h2.2 (h1.2 h)⟩
theorem Fw.mo (h : Fw X M N) (hs : ∀ b j, X b j → Y b j) : Fw Y M N := ⟨fun b j hb => h.1 b j (fun q => hb (hs b j q)), h.2⟩
theorem Fw.s (h : X a j) : Fw X M (sI M a j v) := ⟨fun b k hb => ⟨by rw [gI_sI, if_neg (fun (q : b = a ∧ k = j) => hb (by rw [q.1, q.2]; exact h))], rfl, rfl⟩, fun h => h⟩
theorem Fw.l {v : Int64} (h : X a j) : Fw X M (sL M a j v) := ⟨fun b k hb => ⟨rfl, by rw [gL_sL, if_neg (fun (q : b = a ∧ k = j) => hb (by rw [q.1, q.2]; exact h))], rfl⟩, fun h => h⟩
theorem Fw.r {v : Option Nat} (h : X a j) (hn : rfT a j = none) : Fw X M (sR M a j v) := ⟨fun b k hb => ⟨rfl, rfl, by rw [gR_sR, if_neg (fun (q : b = a ∧ k = j) => hb (by rw [q.1, q.2]; exact h))]⟩, fun h b k w e => by
  rw [gR_sR, if_neg (fun (q : b = a ∧ k = j) => by rw [q.1, q.2, hn] at e; cases e)]; exact h b k w e⟩
theorem Fw.f {L : Nat} {f : Nat → Int32} (h : ∀ k, k < L → X a k) : Fw X M (fl M a L f) := ⟨fun b k hb => ⟨by rw [gI_fl', if_neg (fun (q : b = a ∧ k < L) => hb (by rw [q.1]; exact h k q.2))], rfl, rfl⟩, fun h => h⟩
theorem Fw.c {a0 sp dp n : Nat} (h : ∀ k, X a k) : Fw X M (cpI M a0 sp a dp n) := ⟨fun b k hb => ⟨by rw [gI_cpI, if_neg (fun (q : b = a ∧ _) => hb (by rw [q.1]; exact h k))], rfl, rfl⟩, fun h => h⟩
theorem Fw.I (h : Fw X M N) {b j : Nat} (hb : ¬ X b j) : gI N b j = gI M b j := (h.1 b j hb).1
theorem Fw.L (h : Fw X M N) {b j : Nat} (hb : ¬ X b j) : gL N b j = gL M b j := (h.1 b j hb).2.1
theorem Fw.R (h : Fw X M N) {b j : Nat} (hb : ¬ X b j) : gR N b j = gR M b j := (h.1 b j hb).2.2
theorem Fw.ofFr {Z : Nat → Prop} (h : Fr Z M N) : Fw (fun b _ => Z b) M N := ⟨fun b j hb => ⟨h.2 b j hb, h.L b j, h.R b j⟩, fun q a j v e => (h.R a j).trans (q a j v e)⟩
end
/-- the class's objects, the reference's -/
def CX (b _j : Nat) : Prop := b < 457
def MX (b _j : Nat) : Prop := 457 ≤ b
