abbrev Dd : Type := Int32 × Int32 × Int32
/-- the list at a holds l -/
def LH (M : am_M) (a : Nat) (l : List Dd) : Prop := DL M a l.length ∧ ∀ (k : Nat) (t : Dd), l[k]? = some t → gI M (a + 1) k = t.1 ∧ gI M (a + 2) k = t.2.1 ∧ gI M (a + 3) k = t.2.2
/-- nothing but the ints of the objects X has changed -/
def Fr (X : Nat → Prop) (M N : am_M) : Prop := N.2 = M.2 ∧ ∀ b j, ¬ X b → gI N b j = gI M b j
theorem Fr.rf {X : Nat → Prop} {M : am_M} : Fr X M M := ⟨rfl, fun _ _ _ => rfl⟩
theorem Fr.tr {X : Nat → Prop} {M N O : am_M} (h1 : Fr X M N) (h2 : Fr X N O) : Fr X M O := ⟨h2.1.trans h1.1, fun b j hb => (h2.2 b j hb).trans (h1.2 b j hb)⟩
theorem Fr.st {X : Nat → Prop} {M : am_M} {a j : Nat} {v : Int32} (h : X a) : Fr X M (sI M a j v) := ⟨rfl, fun b k hb => gI_o (fun e => hb (e ▸ h))⟩
theorem Fr.R {X : Nat → Prop} {M N : am_M} (h : Fr X M N) (b j : Nat) : gR N b j = gR M b j := by unfold gR; rw [h.1]
theorem Fr.L {X : Nat → Prop} {M N : am_M} (h : Fr X M N) (b j : Nat) : gL N b j = gL M b j := by unfold gL; rw [h.1]
theorem DLs_Fr {X : Nat → Prop} {M N : am_M} {a : Nat} (h : Fr X M N) (hd : DLs M a) : DLs N a := by
  obtain ⟨h1, h2, h3, h4, h5, h6, h7, h8⟩ := hd
  exact ⟨h1, h2, h3, h4, h5, by rw [h.R]; exact h6, by rw [h.R]; exact h7, by rw [h.R]; exact h8⟩
theorem LH_add {M : am_M} {a : Nat} {l : List Dd} {so pa x : Int32} (h : LH M a l) (hn : l.length < 16) (hx : (if so = 0 ∨ so = 2 ∨ so = 3 then x else 0) = x) : LH (addM M a l.length so pa x) a (l ++ [(so, pa, x)]) := by
  obtain ⟨⟨h1, h2, h3⟩, h4⟩ := h
  refine ⟨⟨h1, ?_, by simp; omega⟩, fun k t hk => ?_⟩
  · unfold addM
    rw [gI_e]; simp
  · unfold addM
    rw [hx]
    simp only [gI_sI]
    by_cases hkl : k < l.length
    · rw [List.getElem?_append_left hkl] at hk
      obtain ⟨q1, q2, q3⟩ := h4 k t hk
      refine ⟨?_, ?_, ?_⟩
      · rw [if_neg (by omega), if_neg (by omega), if_neg (by omega), if_neg (by omega)]; exact q1
      · rw [if_neg (by omega), if_neg (by omega), if_neg (by omega), if_neg (by omega)]; exact q2
      · rw [if_neg (by omega), if_neg (by omega), if_neg (by omega), if_neg (by omega)]; exact q3
    · have hke : k = l.length := by
        have := (List.getElem?_eq_some_iff.mp hk).1
        simp at this
        omega
      subst hke
      rw [List.getElem?_append_right (Nat.le_refl _), Nat.sub_self] at hk
      cases hk
      refine ⟨?_, ?_, ?_⟩
      · rw [if_neg (by omega), if_neg (by omega), if_neg (by omega), if_pos (by simp)]
      · rw [if_neg (by omega), if_neg (by omega), if_pos (by simp)]
      · rw [if_neg (by omega), if_pos (by simp)]
/-- a making from a place on, behind the deeds l: j deeds more at most -/
def pln (T : Nat → Int32) (len : Nat) : Nat → Nat → List Dd → Bool × List Dd × Nat
  | 0, p, l => (false, l, p)
  | j + 1, p, l => if (pdd T len p).1 = false then (false, l, (pdd T len p).2.2.2.2) else
    if sg T len (skp T len (pdd T len p).2.2.2.2) = -1 then (true, l ++ [((pdd T len p).2.1, (pdd T len p).2.2.1, (pdd T len p).2.2.2.1)], skp T len (pdd T len p).2.2.2.2) else
    if 16 ≤ l.length + 1 then (false, l ++ [((pdd T len p).2.1, (pdd T len p).2.2.1, (pdd T len p).2.2.2.1)], skp T len (pdd T len p).2.2.2.2) else
    if sg T len (skp T len (pdd T len p).2.2.2.2) = 59 then pln T len j (skp T len (pdd T len p).2.2.2.2 + 1) (l ++ [((pdd T len p).2.1, (pdd T len p).2.2.1, (pdd T len p).2.2.2.1)]) else (false, l ++ [((pdd T len p).2.1, (pdd T len p).2.2.1, (pdd T len p).2.2.2.1)], skp T len (pdd T len p).2.2.2.2)
theorem skp_le' {T : Nat → Int32} {len p : Nat} (h : p ≤ len) : skp T len p ≤ len := by
  have := sk_ge T (len - p) p
  unfold skp
  omega
theorem pdd_le {T : Nat → Int32} {len p : Nat} (h : p ≤ len) : (pdd T len p).2.2.2.2 ≤ len := by
  have h1 := skp_le' (T := T) h
  unfold pdd
  simp only
  split
  · exact h1
  · rename_i q
    have hlt := srt_lt q
    have h2 := skp_le' (T := T) (p := skp T len p + 1) (len := len) (by omega)
    split
    · exact h2
    · rename_i q1
      have q1 : dgt (sg T len (skp T len (skp T len p + 1))) = true := by simpa using q1
      have hlt1 := sg_dg q1
      split
      · show skp T len (skp T len p + 1) + 1 ≤ len; omega
      · have h3 := skp_le' (T := T) (p := skp T len (skp T len p + 1) + 1) (len := len) (by omega)
        split
        · exact h3
        · rename_i q2
          have q2 : dgt (sg T len (skp T len (skp T len (skp T len p + 1) + 1))) = true := by simpa using q2
          have hlt2 := sg_dg q2
          show skp T len (skp T len (skp T len p + 1) + 1) + 1 ≤ len
          omega
theorem pdd_x {T : Nat → Int32} {len p : Nat} : (if (pdd T len p).2.1 = 0 ∨ (pdd T len p).2.1 = 2 ∨ (pdd T len p).2.1 = 3 then (pdd T len p).2.2.2.1 else 0) = (pdd T len p).2.2.2.1 := by
  unfold pdd
  simp only
  split
  · simp
  · split
    · simp
    · split
      · rename_i q
        have q : ¬ (srt (sg T len (skp T len p)) = 0 ∨ srt (sg T len (skp T len p)) = 2 ∨ srt (sg T len (skp T len p)) = 3) := of_decide_eq_false q
        rw [if_neg q]
      · rename_i q
        split
        · simp
        · have q : srt (sg T len (skp T len p)) = 0 ∨ srt (sg T len (skp T len p)) = 2 ∨ srt (sg T len (skp T len p)) = 3 := by
            have q' : tlx (srt (sg T len (skp T len p))) = true := by simpa using q
            exact of_decide_eq_true q'
          rw [if_pos q]
