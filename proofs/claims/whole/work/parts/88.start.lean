/-! where the law begins: what the tables and the start give -/
abbrev ws_N : List Cond := flatC (Jvm.Cond.and given_1 narrow_1)
def ws_tm (i : Nat) : Term := .string RX11 (am_sidx.getD i (0, "")).1
theorem ws_len : ∀ i : Nat, i < 4 → am_lens.getD i 0 < 2 ^ 31 := by decide
theorem ws_hex : ∀ i : Nat, i < 4 → Cond.exactly (ws_tm i) "java/lang/String" ∈ ws_N := by decide +kernel
theorem ws_hco : ∀ i : Nat, i < 4 → Cond.eq (.field (ws_tm i) "java/lang/String" "coder" "B") (.int 0) ∈ ws_N := by decide +kernel
theorem ws_har : ∀ i : Nat, i < 4 → Cond.arrayOf (.field (ws_tm i) "java/lang/String" "value" "[B") .byte ∈ ws_N := by decide +kernel
theorem ws_hle : ∀ i : Nat, i < 4 → Cond.eq (.length (.field (ws_tm i) "java/lang/String" "value" "[B")) (.int (Int32.ofNat (am_lens.getD i 0))) ∈ ws_N := by decide +kernel
theorem ws_hel : ∀ i : Nat, i < 4 → ∀ j : Nat, j < am_lens.getD i 0 → Cond.eq (.elem (.field (ws_tm i) "java/lang/String" "value" "[B") (.int (Int32.ofNat j))) (.int ((am_byts.getD i []).getD j 0)) ∈ ws_N := by decide +kernel
theorem ws_hne : ∀ i : Nat, i < 4 → ∀ j : Nat, j < 4 → i ≠ j → Cond.not (Cond.eq (ws_tm i) (ws_tm j)) ∈ ws_N ∨ Cond.not (Cond.eq (ws_tm j) (ws_tm i)) ∈ ws_N := by decide +kernel
theorem ws_str : ∀ i : Nat, i < 4 → Cond.stringRef RX11 (am_sidx.getD i (0, "")).1 (am_sidx.getD i (0, "")).2 ∈ lw_tbl := by decide +kernel
theorem ws_ins : vwCl.all (fun r => lw_tbl.any (fun v => decide (v = .instantiable r.1 r.2.2))) = true := by decide +kernel
theorem ws_nbt : ∀ w ∈ ax_nb, w.onTables = true ∧ w ∈ lw_tbl := by decide +kernel
section
variable {s : State} {args : Array Value}
theorem ws_cls (hts : ∀ w ∈ lw_tbl, w.before args s = true) : ∃ (dC : Nat → ClassId) (dI : Nat → Nat → Nat), ∀ (k : Nat) (q : vw_C), vwCl[k]? = some q → u_Kn s q.1 q.2.1 q.2.2 (dC k) (dI k) := by
  have h0 : ∀ k : Nat, ∃ z : ClassId × (Nat → Nat), ∀ q : vw_C, vwCl[k]? = some q → u_Kn s q.1 q.2.1 q.2.2 z.1 z.2 := by
    intro k
    cases h : vwCl[k]? with
    | none => exact ⟨(0, fun _ => 0), fun q hq => by cases hq⟩
    | some r =>
      have h1 := List.all_eq_true.mp ws_ins r (List.mem_of_getElem? h)
      obtain ⟨v, hv, hvr⟩ := List.any_eq_true.mp h1
      rw [of_decide_eq_true hvr] at hv
      obtain ⟨cC, iS, hKn⟩ := u_known (C := r.1) (T := r.2.1) (N := r.2.2) (n := r.2.2) hts (fun w hw => (List.mem_filter.mp ((am_CLok _ _ h).1 w hw)).1) (hts _ hv)
      exact ⟨(cC, iS), fun q hq => by cases hq; exact hKn⟩
  obtain ⟨z, hz⟩ := Classical.axiomOfChoice h0
  exact ⟨fun k => (z k).1, fun k => (z k).2, hz⟩
theorem ws_ap {ty : FieldType} (h : (Cond.arrayClass ty).before args s = true) : ∃ cA, ArrOfT s cA ty ∧ s.vm.findClass ("[" ++ ty.toString) = some cA := by
  obtain ⟨cA, kA, comp, h1, h2, h3⟩ := Cond.arrayClass_spec h
  exact ⟨cA, fun n z => ⟨fun k h => (by cases h), kA, h2, comp, h3⟩, h1⟩
theorem ws_ao {C : String} (h : (Cond.arrayOver (.object C)).before args s = true) : ∃ cA, ArrOfT s cA (.object C) ∧ va_RA s cA (.object C) := by
  obtain ⟨comp, cA, kA, h1, -, h2, h3, h4⟩ := Cond.arrayOver_spec h
  exact ⟨cA, fun n z => ⟨fun k h => (by cases h), kA, h2, comp, h3⟩, kA, comp, h2, h3, h1, h4⟩
end
def ws_sc (L : Nat) (xs : Nat → Int32) : Nat → Int32 := fun j => if j = 1000 then nI L else xs j
set_option maxRecDepth 100000 in
set_option maxHeartbeats 2000000 in
theorem whole_start {p : Program} {e : Env} {s : State} {m : MethodId} {below : List Frame} {meth : Method} {c : Code} (l : Launch) (hn : l.stackTraces = false) {b L : Nat} {xs : Nat → Int32} (hL : L ≤ 384) (C0 : lw_At p s m meth c b L xs) : W p l e room_1 s m #[Value.ref b] below meth c s.heap [] 0 0 (lw_Z below #[Value.ref b] s) (entryFrame m ([Value.ref b] : List Value).toArray 7) := by
  obtain ⟨hx, hb, hr, hml, hown, hts, hX, hbl, hlocks, hgv⟩ := id C0
  have hg : ∀ w ∈ ws_N, w.before #[Value.ref b] s = true := flat_of_before _ hgv
  have htb : ∀ w ∈ am_tb, w.before #[Value.ref b] s = true := fun w hw => hts w (List.mem_filter.mp hw).1
  have hA : ∀ a : Nat, a < s.heap.size → ¬ (fun q : Nat => s.heap.size ≤ q) a := fun a ha => Nat.not_le.mpr ha
  obtain ⟨dC, dI, hKc⟩ := ws_cls hts
  obtain ⟨a1, f1, r1⟩ := ws_ap (htb _ am_ARok.1)
  obtain ⟨a2, f2, r2⟩ := ws_ap (htb _ am_ARok.2.1)
  obtain ⟨a3, f3, r3⟩ := ws_ap (htb _ am_ARok.2.2.1)
  obtain ⟨a4, f4, r4⟩ := ws_ap (htb _ am_ARok.2.2.2)
  have o5 : (Cond.arrayOver (.object RX0)).before #[Value.ref b] s = true := hts _ (by decide +kernel)
  have o6 : (Cond.arrayOver (.object RX8)).before #[Value.ref b] s = true := hts _ (by decide +kernel)
  have o7 : (Cond.arrayOver (.object RX2)).before #[Value.ref b] s = true := hts _ (by decide +kernel)
  obtain ⟨a5, f5, r5⟩ := ws_ao o5
  obtain ⟨a6, f6, r6⟩ := ws_ao o6
  obtain ⟨a7, f7, r7⟩ := ws_ao o7
  obtain ⟨adK, adV, hSS, hev⟩ := vk_Sof (args := #[Value.ref b]) (s := s) (N := 4) (tm := ws_tm) (len := am_lens) (byt := am_byts) (A := fun q : Nat => s.heap.size ≤ q) ws_len (fun i hi => hg _ (ws_hex i hi)) (fun i hi => hg _ (ws_hco i hi)) (fun i hi => hg _ (ws_har i hi)) (fun i hi => hg _ (ws_hle i hi)) (fun i hi j hj => hg _ (ws_hel i hi j hj)) (fun i j hi hj hne => (ws_hne i hi j hj hne).imp (hg _) (hg _)) hA
  obtain ⟨sa, -, -, -, hsa, -⟩ := Cond.exactly_spec (args := #[Value.ref b]) (first := s) (o := none) (s := s) (idx := []) (t := .string RX10 159) (cls := "java/lang/String") (hg _ (by decide +kernel))
  obtain ⟨g, eg⟩ : ∃ g : am_g, g = (s.heap.size, dC, dI, fun k => [0, a1, a2, a3, a4, a5, a6, a7].getD k 0, adK, adV, b, L, xs) := ⟨_, rfl⟩
  have hK : va_K (g_D g) vwCl (am_tys g) s := by
    rw [eg]
    refine ⟨hKc, fun k q hq => ?_⟩
    match k, hq with
    | 0, hq => cases hq; exact ⟨f1, r1⟩
    | 1, hq => cases hq; exact ⟨f2, r2⟩
    | 2, hq => cases hq; exact ⟨f3, r3⟩
    | 3, hq => cases hq; exact ⟨f4, r4⟩
    | 4, hq => cases hq; exact ⟨f5, r5⟩
    | 5, hq => cases hq; exact ⟨f6, r6⟩
    | 6, hq => cases hq; exact ⟨f7, r7⟩
    | k + 7, hq => simp [am_tys] at hq
  have hSU : am_SU g s s.heap := by
    rw [eg]
    refine ⟨hSS, va_Zof (hts (.laysStatic "java/lang/String" "COMPACT_STRINGS" "Z") (by decide +kernel)) (hts (.initialized "java/lang/String") (by decide +kernel)) (va_eqt (hg (.eq (.static "java/lang/String" "COMPACT_STRINGS" "Z") (.int 1)) (by decide +kernel))) hA, va_Zqof (hts (.laysStatic "jdk/internal/util/Preconditions" "SIOOBE_FORMATTER" "Ljava/util/function/BiFunction;") (by decide +kernel)) (hts (.initialized "jdk/internal/util/Preconditions") (by decide +kernel)) (hg _ (by decide +kernel)) hA, fun k hk => ?_⟩
    exact vk_R.of (A := #[Value.ref b]) (hts _ (ws_str k hk)) (hev k hk)
  have hT : ax_T g sa s s.heap := by
    rw [eg]
    refine ⟨vx_Zqof (hts (.laysStatic Bundle.tN "UNASSIGNED_STACK" Bundle.steD) (by decide +kernel)) (hts (.initialized Bundle.tN) (by decide +kernel)) (hg _ (by decide +kernel)) hA, vx_Zqof (hts (.laysStatic Bundle.tN "SUPPRESSED_SENTINEL" Bundle.listD) (by decide +kernel)) (hts (.initialized Bundle.tN) (by decide +kernel)) (hg _ (by decide +kernel)) hA, vk_R.of (A := #[Value.ref b]) (hts _ (by decide +kernel)) hsa, fun w hw => ?_⟩
    exact va_Nw.of (ws_nbt w hw).1 (hts _ (ws_nbt w hw).2)
  have egb : g_b g = s.heap.size := by rw [eg]; rfl
  have egs : g_s g = b := by rw [eg]; rfl
  have egL : g_L g = L := by rw [eg]; rfl
  have egx : g_x g = xs := by rw [eg]; rfl
  have hU : am_U g s s.heap := ⟨hK, by rw [egs, egL, egx]; exact hX, by rw [egs, egb]; exact hbl, ⟨by rw [egL]; exact hL, fun a i x h => va_Nw.of rfl (hts _ h), va_AO.of o5, va_AO.of o6, va_AO.of o7⟩, hSU⟩
  have hR : am_R g 0 (mS (ws_sc L xs)) s.heap := by
    refine ⟨Nat.zero_le _, fun k q hq => by simp [am_Wd] at hq, fun k j _ hk => ?_, ?_, fun j hj => ?_⟩
    · refine ⟨?_, rfl, rfl⟩
      show (if k = 2000000 then ws_sc L xs j else 0) = 0
      rw [if_neg (by intro z; rw [z] at hk; exact absurd hk (by decide))]
    · show (if (2000000 : Nat) = 2000000 then ws_sc L xs 1000 else 0) = _
      rw [if_pos rfl, egL]; unfold ws_sc; rw [if_pos rfl]
    · show (if (2000000 : Nat) = 2000000 then ws_sc L xs j else 0) = _
      rw [if_pos rfl, egx]; unfold ws_sc; rw [if_neg (by rw [egL] at hj; omega)]
  obtain ⟨hlaw, h64⟩ := law_all (sc := ws_sc L xs) (Q := fun r _ => r = some (.int 1)) (len := L) (fun _ => rfl) (by unfold ws_sc; rw [if_pos rfl]) hL
  generalize cntA (ws_sc L xs) (L / 6) = kk at hlaw h64
  have hRk : am_Rok 40 room_1 (mLk kk) := ⟨by decide, by decide, by show 488 + 8 * kk ≤ 600128; omega, by show 103327 + 64 * kk ≤ 7301098; omega⟩
  have hst := am_Stok (g := g) (l := l) (mLk kk) room_1 (ax_ZL g sa) (by decide) (by decide)
  have hW := am_runs (g := g) (l := l) (y := mLk kk) (R := room_1) (Z := ax_ZL g sa) (d := 40) (n0 := 0) am_Tok (gyLk kk) (am_CD_all am_Tok am_Stok am_n9 40) hRk hst.1 hst.2 (ax_S9 (d := 39) hn (by decide) (by decide) ⟨hRk.2.2.1, hRk.2.2.2⟩) (ax_RE h64) hlaw
  have hLs := am_Ls_ent (g := g) (k := 7) [.ref am_SC] (by decide)
  have eSC : ([.ref am_SC] : List Value).map (am_v g) = [.ref b] := by
    show [Value.ref (am_ad g am_SC)] = _
    rw [am_ad_SC, egs]
  rw [eSC] at hLs
  rw [lg_entry_eq]
  have X : am_Cx g (mLk kk) p s m #[Value.ref b] meth c := ⟨hx, hb, hr, hml, hown, htb, hlocks, fun z => absurd (show am_ini mL_law = true from z) (by decide), hU, Nat.le_of_eq egb⟩
  refine W_mono (Q := ax_ZL g sa below #[Value.ref b] s) (fun t ht => ht ⟨by rw [egs], hT, Nat.le_of_eq egb.symm⟩) ?_
  exact hW p e s m #[Value.ref b] below meth c s.heap [] _ X hR va_S.rf (fun _ => by rw [egb]; exact Nat.le_refl _) hLs ⟨Nat.zero_le _, Nat.zero_le _⟩
