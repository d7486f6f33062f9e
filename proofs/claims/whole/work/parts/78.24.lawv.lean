/-! what a law's text is worth, told once for both sides -/
abbrev lwC (tp : List Nat) : List Cl := (lawP (tf tp) tp.length 240 0 []).2.2
def lwOK (tp : List Nat) : Prop := tpK tp ∧ tp.length ≤ 240 ∧ (lawP (tf tp) tp.length 240 0 []).1 = true
section
variable {L : Int32 → Int32} {c : List Int32} {k k1 k2 : Nat} {v v1 v2 : Int32}
theorem CV_un (h1 : CV L c k1 v1) (h2 : CV L c k2 v2) : v1 = v2 := by
  have e1 := h1 [] (k1 + k2) (by simp)
  have e2 := h2 [] (k1 + k2) (by simp)
  rw [e1] at e2
  simpa using e2
theorem bz_inj {a b : Bool} (h : bz a = bz b) : a = b := by cases a <;> cases b <;> first | rfl | exact absurd h (by decide)
theorem LVs_un : ∀ {cs : List Cl} {vs ws : List (Bool × Int32)}, LVs L cs vs → LVs L cs ws → vs = ws
  | [], [], [], _, _ => rfl
  | [], _ :: _, _, h, _ => h.elim
  | [], [], _ :: _, _, h => h.elim
  | _ :: _, [], _, h, _ => h.elim
  | _ :: _, _ :: _, [], _, h => h.elim
  | c :: cs, v :: vs, w :: ws, h1, h2 => by
    have e1 := LVs_un h1.2 h2.2
    obtain ⟨v1, v2⟩ := v
    obtain ⟨w1, w2⟩ := w
    have e2 : v2 = w2 := CV_un h1.1.2.2 h2.1.2.2
    have e3 : v1 = w1 := by
      cases z : c.2.2 with
      | true => exact bz_inj (CV_un (h1.1.1 z) (h2.1.1 z))
      | false => exact (h1.1.2.1 z).trans (h2.1.2.1 z).symm
    rw [e1, e2, e3]
end
noncomputable def lawV (tp : List Nat) (L : Int32 → Int32) : Int32 := fstV (Classical.epsilon (fun vs => LVs L (lwC tp) vs))
theorem lawV_eq {tp : List Nat} {L : Int32 → Int32} {vs : List (Bool × Int32)} (h : LVs L (lwC tp) vs) : fstV vs = lawV tp L := by
  unfold lawV
  rw [LVs_un h (Classical.epsilon_spec (p := fun vs => LVs L (lwC tp) vs) ⟨vs, h⟩)]
/-- a memory in which the text stands on the reference's tape, the letters set as L says -/
def mwt (tp : List Nat) (L : Int32 → Int32) : am_M := (fun a j => if a = 458 then bsx (tp.getD j 0) else if a = 461 then L (ltr (nI j)) else if a = 457 then nI tp.length else 0, fun _ _ => 0, fun a j => rfT a j)
theorem law_ex {tp : List Nat} {L : Int32 → Int32} (h : lwOK tp) (hL : ∀ x, ¬ ltr x = -1 → Bd (L (ltr x))) : ∃ vs, LVs L (lwC tp) vs := by
  have hT : TM (mwt tp L) tp := by
    refine ⟨rfl, h.2.1, fun k hk => ?_⟩
    show bsx (tp.getD k 0) = _
    rw [List.getD_eq_getElem?_getD, List.getElem?_eq_getElem hk]
    rfl
  have hM : LMt (mwt tp L) L := fun x j hx _ e => by
    refine ⟨?_, hL x hx⟩
    show L (ltr (nI j)) = _
    rw [e]
  have hW : WR (mwt tp L) := fun a j v e => e
  obtain ⟨M', _, _, _, r3⟩ := m_goThrough (M := mwt tp L) (b := 458) (beg := 0) (len := tp.length) (T := tf tp) rfl hW (PB_tape hT h.1) hM
  obtain ⟨vs, hv, _⟩ := r3 h.2.2
  exact ⟨vs, hv⟩
/-- the letters of a deed -/
def ltF (so pa x n b t : Int32) (z : Int32) : Int32 := if z = 0 then so else if z = 1 then pa else if z = 2 then x else if z = 3 then n else if z = 4 then b else t
noncomputable def prc (LL : List (List Nat)) (h : Int32) (so pa x n b t : Int32) : Int32 := if h = -1 then so + 1 else wI 0 (lawV (LL.getD h.toNatClampNeg []) (ltF so pa x n b t)).toInt64 99
theorem Bd_n {k : Nat} (h : k ≤ 10000) : Bd (nI k) := by
  unfold Bd
  rw [nI_toInt (by omega)]
  omega
def lwL (LL : List (List Nat)) : Prop := ∀ tp, tp ∈ LL → lwOK tp
/-- the law that holds: none, or one of those told -/
def hld (LL : List (List Nat)) (h : Int32) : Prop := h = -1 ∨ ∃ i, i < LL.length ∧ h = nI i
def LbC (M : am_M) (LL : List (List Nat)) (h : Int32) : Prop := gI M 392 2 = nI LL.length ∧ gI M 392 3 = h ∧ LL.length ≤ 4 ∧ lwL LL ∧ hld LL h ∧ ∀ i (hi : i < LL.length), LW M (395 + 3 * i) (cod (lwC LL[i]))
