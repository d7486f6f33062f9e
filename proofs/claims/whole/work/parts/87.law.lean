/-! the law's own run, in the machine -/
def ax_ZL (g : am_g) (sa : Nat) : List Frame → Array Value → State → State → Prop := fun below args s t => (args = #[.ref (g_s g)] ∧ ax_T g sa s s.heap ∧ s.heap.size ≤ g_b g) → lw_Z below args s t
theorem ax_n9 {k : Nat} {y' : am_Y} {ps : List Nat} (hm : am_ml 12 k = some (9, y', ps)) : k = 38 ∧ y' = mL_apprentice := by
  have h : ((am_mlT.getD 12 []).all fun e => e.2.1 != 9 || e.1 == 38) = true := by decide +kernel
  have h1 := List.all_eq_true.mp h _ (am_lk_mem hm)
  have h2 : k = 38 := by simpa using h1
  subst h2
  have e : (am_ml 12 38).map (fun q => q.2.1) = some mL_apprentice := rfl
  rw [hm] at e
  exact ⟨rfl, Option.some.inj e⟩
theorem ax_ainv {as : List Value} {n : Nat} {M : am_M} {Q : am_Q} (h : am_app as n M Q) : ∃ p0 p1 : Int32, as = [.ref 0, .int p0, .int p1, .ref 487] ∧ am_NN ≤ n ∧ ax_M M ∧ (ax_K M p0 p1 → Q (some (.int 0)) (sL M 487 0 (ax_V M p0 p1).toInt64)) ∧ (¬ ax_K M p0 p1 → Q (some (.int 1)) M) := by
  unfold am_app at h
  split at h
  · rename_i x p0 p1 o
    obtain ⟨⟨rfl, rfl, h1, h2⟩, h3, h4⟩ := h
    exact ⟨p0, p1, rfl, h1, h2, h3, h4⟩
  · exact h.elim
theorem ax_Lg : GoodIn am_tb (va_wsS RL 38 yL_apprentice ax_Lw) := by
  intro w hw
  rcases List.mem_append.mp hw with hw | hw
  · simp only [List.mem_cons, List.not_mem_nil, or_false] at hw
    rcases hw with rfl | rfl | rfl
    · exact am_gd (am_tb_at 1113 (by decide +kernel) (by decide))
    · exact am_gd (am_tb_at 1114 (by decide +kernel) (by decide))
    · exact am_gd (am_tb_at 98 (by decide +kernel) (by decide))
  · rcases List.mem_cons.mp hw with rfl | hw
    · exact am_gd (am_tb_at 1115 (by decide +kernel) (by decide))
    · exact am_gd hw
section
variable {g : am_g} {l : Launch} {sa : Nat} {R : Room} {kk d : Nat}
theorem ax_S9 (hn : l.stackTraces = false) (hF : 21 ≤ R.frames) (hLo : 1024 ≤ R.locals) (hRk : (am_al (mLk kk)).2.1 ≤ R.cells ∧ (am_al (mLk kk)).2.2 ≤ R.slots) : am_S9OK g l (d + 1) (mLk kk) R (ax_ZL g sa) := by
  intro k y' ps n c w pc ls st M hk hd hinv
  obtain ⟨rfl, rfl⟩ := ax_n9 hk
  obtain ⟨⟨i1, i2, i3, i4, i5⟩, hcall⟩ := hinv
  have hcall : am_app (st.take 4).reverse n M (am_cont mL_apprentice (am_Wp g l (mLk kk) R (ax_ZL g sa)) n c w (pc + 3) ls (st.drop 4)) := hcall
  obtain ⟨p0, p1, has, hNN, hM, h1, h2⟩ := ax_ainv hcall
  intro p e s m args below meth c0 H locs mls X hR hS hz hL hcw
  by_cases hc : args = #[.ref (g_s g)] ∧ ax_T g sa s s.heap ∧ s.heap.size ≤ g_b g
  · have hn4 : n = 488 := Nat.le_antisymm hR.1 hNN
    subst hn4
    have hts := X.2.2.2.2.2.1
    have hst : st.map (am_v g) = ([.ref (g_b g), .int p0, .int p1, .ref (g_b g + 487)] : List Value).reverse ++ (st.drop 4).map (am_v g) := by
      have e : st.take 4 = [.ref 487, .int p1, .int p0, .ref 0] := by
        rw [← List.reverse_reverse (st.take 4), has]; rfl
      have e2 : st.map (am_v g) = (st.take 4).map (am_v g) ++ (st.drop 4).map (am_v g) := by rw [← List.map_append, List.take_append_drop]
      rw [e2, e]
      show [Value.ref (am_ad g 487), .int p1, .int p0, .ref (am_ad g 0)] ++ _ = _
      rw [am_ad_own (n := 488) (by omega) (Nat.le_refl _), am_ad_own (n := 488) (by omega) (Nat.le_refl _)]
      rfl
    have hcw2 : c + 8 ≤ R.cells ∧ w + 64 ≤ R.slots := ⟨Nat.le_trans i4 hRk.1, Nat.le_trans i5 hRk.2⟩
    refine va_calli (vx_runSW (As := [.ref (g_b g), .int p0, .int p1, .ref (g_b g + 487)]) (rest := (st.drop 4).map (am_v g)) ⟨X.1, X.2.1, X.2.2.2.1, X.2.2.2.2.1, hts⟩ (ax_L (g := g) (M := M) (p0 := p0) (p1 := p1) (sa := sa) hn hM) (vx_cwSW 4 hts ax_Lg rfl rfl rfl (by decide +kernel) ⟨hF, hLo⟩) ⟨ax_blind, fun U hUH hW => ⟨rfl, ax_pre hR X.2.2.2.2.2.2.2.2.1 X.2.2.2.2.2.2.2.2.2 hc.2.1 hS hUH hW⟩⟩ rfl rfl hL.1 hst (am_room i2) hd hcw2) hS (fun _ _ h => h) (fun _ h => h) (fun r u t H1 locs1 ht hvm hp hB q1 q2 hS1 => ?_)
    by_cases hK : ax_K M p0 p1
    · obtain ⟨rfl, rfl⟩ := hp.1 hK
      have h3 : am_Wp g l (mLk kk) R (ax_ZL g sa) (488 + 0) (c + 8) (w + 64) (pc + 3) ls (.int 0 :: st.drop 4) (sL M 487 0 (ax_V M p0 p1).toInt64) := h1 hK
      exact h3 p e s m args below meth c0 H1 locs1 mls X (by rw [← ht]; exact hB) hS1 (fun q => absurd q (by decide)) hL hcw2
    · obtain ⟨rfl, rfl⟩ := hp.2 hK
      have h3 : am_Wp g l (mLk kk) R (ax_ZL g sa) (488 + 0) (c + 8) (w + 64) (pc + 3) ls (.int 1 :: st.drop 4) u := h2 hK
      exact h3 p e s m args below meth c0 H1 locs1 mls X (by rw [← ht]; exact hB) hS1 (fun q => absurd q (by decide)) hL hcw2
  · exact W_triv (fun t z => absurd z hc)
theorem ax_RE (h64 : kk ≤ 64) {n0 : Nat} : am_REOK g l (mLk kk) n0 (fun r _ => r = some (.int 1)) room_1 (ax_ZL g sa) := by
  intro n c w pc ls M hr
  obtain ⟨rfl, rfl, rfl⟩ := hr
  refine ⟨fun v hv hQ hd => ?_, fun v hv => absurd hv (fun z => by cases z), fun hv => absurd hv (fun z => by cases z)⟩
  cases hQ
  intro p e s m args below meth c0 H locs mls X hR hS hz hL hcw
  by_cases hc : args = #[.ref (g_s g)] ∧ ax_T g sa s s.heap ∧ s.heap.size ≤ g_b g
  · obtain ⟨rfl, -, hsz⟩ := hc
    refine W_mono (Q := lw_Z below #[.ref (g_s g)] s) (fun t ht _ => ht) ?_
    refine va_forget (fun q hq => Nat.le_trans hsz (hS.2.2 q hq)) ?_
    refine W.widen (k := 600128) (n := 7301098) (by show 488 + 8 * kk ≤ 600128; omega) (by show 103327 + 64 * kk ≤ 7301098; omega) ?_
    exact lw_ret X.1 X.2.1 X.2.2.1 X.2.2.2.2.2.2.1 hd
  · exact W_triv (fun t z => absurd z hc)
end
theorem gyLk (kk : Nat) : am_Gy (mLk kk) := ⟨gyL_law.1, by show (7 : Nat) ≤ 29; omega, rfl⟩
