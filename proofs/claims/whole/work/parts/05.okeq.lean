section AMMONO
variable {call : am_C} {y : am_Y} {n0 : Nat} {Q Q' : am_Q} {P P' : am_P} {n c w pc : Nat} {ls : List (Option Value)} {st : List Value} {M : am_M}
def am_mono (call : am_C) : Prop := ∀ (y : am_Y) (as : List Value) (n : Nat) (M : am_M) (K K' : am_Q), (∀ r M, K r M → K' r M) → call y as n M K → call y as n M K'
theorem am_cont_mono {y' : am_Y} {rest : List Value} (hP : ∀ n c w pc ls st M, P n c w pc ls st M → P' n c w pc ls st M) : ∀ r M, am_cont y' P n c w pc ls rest r M → am_cont y' P' n c w pc ls rest r M := by
  intro r M h
  unfold am_cont at h ⊢
  split <;> first | exact hP _ _ _ _ _ _ _ (by simpa [*] using h) | (simp_all)
theorem am_inv_mono (hc : am_mono call) {y' : am_Y} {k : Nat} (hP : ∀ n c w pc ls st M, P n c w pc ls st M → P' n c w pc ls st M) (h : am_inv call y y' P k n c w pc ls st M) : am_inv call y y' P' k n c w pc ls st M := ⟨h.1, hc _ _ _ _ _ _ (am_cont_mono hP) h.2⟩
theorem am_i1_mono {f g : Int32 → List Value → Prop} (h : ∀ x r, f x r → g x r) (hf : am_i1 st f) : am_i1 st g := by
  unfold am_i1 at hf ⊢; split <;> simp_all
theorem am_i2_mono {f g : Int32 → Int32 → List Value → Prop} (h : ∀ x y r, f x y r → g x y r) (hf : am_i2 st f) : am_i2 st g := by
  unfold am_i2 at hf ⊢; split <;> simp_all
theorem am_l1_mono {f g : Int64 → List Value → Prop} (h : ∀ x r, f x r → g x r) (hf : am_l1 st f) : am_l1 st g := by
  unfold am_l1 at hf ⊢; split <;> simp_all
theorem am_l2_mono {f g : Int64 → Int64 → List Value → Prop} (h : ∀ x y r, f x y r → g x y r) (hf : am_l2 st f) : am_l2 st g := by
  unfold am_l2 at hf ⊢; split <;> simp_all
theorem am_li_mono {f g : Int64 → Int32 → List Value → Prop} (h : ∀ x y r, f x y r → g x y r) (hf : am_li st f) : am_li st g := by
  unfold am_li at hf ⊢; split <;> simp_all
theorem am_r1_mono {f g : Nat → List Value → Prop} (h : ∀ x r, f x r → g x r) (hf : am_r1 st f) : am_r1 st g := by
  unfold am_r1 at hf ⊢; split <;> simp_all
theorem am_ri_mono {f g : Nat → Int32 → List Value → Prop} (h : ∀ x y r, f x y r → g x y r) (hf : am_ri st f) : am_ri st g := by
  unfold am_ri at hf ⊢; split <;> simp_all
theorem am_rii_mono {f g : Nat → Int32 → Int32 → List Value → Prop} (h : ∀ x y z r, f x y z r → g x y z r) (hf : am_rii st f) : am_rii st g := by
  unfold am_rii at hf ⊢; split <;> simp_all
theorem am_ril_mono {f g : Nat → Int32 → Int64 → List Value → Prop} (h : ∀ x y z r, f x y z r → g x y z r) (hf : am_ril st f) : am_ril st g := by
  unfold am_ril at hf ⊢; split <;> simp_all
theorem am_rir_mono {f g : Nat → Int32 → Nat → List Value → Prop} (h : ∀ x y z r, f x y z r → g x y z r) (hf : am_rir st f) : am_rir st g := by
  unfold am_rir at hf ⊢; split <;> simp_all
theorem am_cpy_mono {f g : Nat → Int32 → Nat → Int32 → Int32 → List Value → Prop} (h : ∀ a b x y z r, f a b x y z r → g a b x y z r) (hf : am_cpy st f) : am_cpy st g := by
  unfold am_cpy at hf ⊢; split <;> simp_all
theorem am_put_mono {kd k : Nat} {f g : Nat → am_M → List Value → Prop} (h : ∀ a M r, f a M r → g a M r) (hf : am_put kd st M k f) : am_put kd st M k g := by
  unfold am_put at hf ⊢; split <;> simp_all
theorem am_ldI_mono {k : Nat} {f g : Int32 → Prop} (h : ∀ x, f x → g x) (hf : am_ldI ls k f) : am_ldI ls k g := by
  unfold am_ldI at hf ⊢; split <;> simp_all
theorem am_ldL_mono {k : Nat} {f g : Int64 → Prop} (h : ∀ x, f x → g x) (hf : am_ldL ls k f) : am_ldL ls k g := by
  unfold am_ldL at hf ⊢; split <;> simp_all
theorem am_ldR_mono {k : Nat} {f g : Nat → Prop} (h : ∀ x, f x → g x) (hf : am_ldR ls k f) : am_ldR ls k g := by
  unfold am_ldR at hf ⊢; split <;> simp_all
theorem am_du1_mono {f g : List Value → Prop} (h : ∀ x, f x → g x) (hf : am_du1 st f) : am_du1 st g := by
  unfold am_du1 at hf ⊢; split <;> simp_all
theorem am_du2_mono {f g : List Value → Prop} (h : ∀ x, f x → g x) (hf : am_du2 st f) : am_du2 st g := by
  unfold am_du2 at hf ⊢; split <;> simp_all
theorem am_po1_mono {f g : List Value → Prop} (h : ∀ x, f x → g x) (hf : am_po1 st f) : am_po1 st g := by
  unfold am_po1 at hf ⊢; split <;> simp_all
theorem am_br_mono {k : Prop} {off : Int} {F G : Nat → Prop} {len : Nat} (h : ∀ t, F t → G t) (hf : am_br k pc off F len) : am_br k pc off G len := ⟨hf.1, fun q => h _ (hf.2.1 q), fun q => h _ (hf.2.2 q)⟩
theorem am_tsw_mono {x : Int32} {F G : Nat → Prop} (h : ∀ t, F t → G t) : ∀ (l : List Int) (k : Int), am_tsw x pc F k l → am_tsw x pc G k l
  | [], _, _ => trivial
  | _ :: r, k, q => ⟨⟨q.1.1, fun e => h _ (q.1.2 e)⟩, am_tsw_mono h r (k + 1) q.2⟩
theorem am_lsw_mono {x : Int32} {F G : Nat → Prop} (h : ∀ t, F t → G t) : ∀ (l : List (Int × Int)), am_lsw x pc F l → am_lsw x pc G l
  | [], _ => trivial
  | _ :: r, q => ⟨⟨q.1.1, q.1.2.1, fun e => h _ (q.1.2.2 e)⟩, am_lsw_mono h r q.2⟩
theorem am_opt_mono {α : Type} {o : Option α} {f g : α → Prop} (h : ∀ x, f x → g x) (hf : am_opt o f) : am_opt o g := by
  unfold am_opt at hf ⊢; split <;> simp_all
theorem am_ldc_mono {c k : Nat} {f g : Value → Prop} (h : ∀ x, f x → g x) (hf : am_ldc c k f) : am_ldc c k g := by
  unfold am_ldc at hf ⊢; split <;> simp_all
theorem am_vir_mono (hc : am_mono call) {q : Option (Nat × am_Y × List Nat)} (hP : ∀ n c w pc ls st M, P n c w pc ls st M → P' n c w pc ls st M) (h : am_vir call y P q n c w pc ls st M) : am_vir call y P' q n c w pc ls st M := by
  unfold am_vir at h ⊢
  split at h
  · exact ⟨h.1, am_inv_mono hc hP h.2⟩
  · exact am_r1_mono (fun _ _ q => ⟨q.1, q.2.1, hP _ _ _ _ _ _ _ q.2.2⟩) h
  · exact am_ri_mono (fun _ _ _ q => ⟨q.1, q.2.1, hP _ _ _ _ _ _ _ q.2.2⟩) h
  · exact h.elim
theorem am_sta_mono (hc : am_mono call) {q : Option (Nat × am_Y × List Nat)} (hP : ∀ n c w pc ls st M, P n c w pc ls st M → P' n c w pc ls st M) (h : am_sta call y P q n c w pc ls st M) : am_sta call y P' q n c w pc ls st M := by
  unfold am_sta at h ⊢
  split at h
  · exact am_inv_mono hc hP h
  · exact am_inv_mono hc hP h
  · exact am_inv_mono hc hP h
  · exact am_cpy_mono (fun _ _ _ _ _ _ q => ⟨q.1, q.2.1, hP _ _ _ _ _ _ _ q.2.2⟩) h
  · exact am_i2_mono (fun _ _ _ q => ⟨q.1, hP _ _ _ _ _ _ _ q.2⟩) h
  · exact am_i2_mono (fun _ _ _ q => ⟨q.1, hP _ _ _ _ _ _ _ q.2⟩) h
  · exact am_i1_mono (fun _ _ q => ⟨q.1, hP _ _ _ _ _ _ _ q.2⟩) h
  · exact am_l2_mono (fun _ _ _ q => ⟨q.1, hP _ _ _ _ _ _ _ q.2⟩) h
  · exact am_l2_mono (fun _ _ _ q => ⟨q.1, hP _ _ _ _ _ _ _ q.2⟩) h
  · exact h.elim
theorem am_spe_mono (hc : am_mono call) {q : Option (Nat × am_Y × List Nat)} (hP : ∀ n c w pc ls st M, P n c w pc ls st M → P' n c w pc ls st M) (h : am_spe call y P q n c w pc ls st M) : am_spe call y P' q n c w pc ls st M := by
  unfold am_spe at h ⊢
  split at h
  · exact ⟨h.1, am_inv_mono hc hP h.2⟩
  · exact ⟨h.1, am_inv_mono hc hP h.2⟩
  · exact am_r1_mono (fun _ _ q => ⟨q.1, hP _ _ _ _ _ _ _ q.2⟩) h
  · exact h.elim
theorem am_ire_mono (hQ : ∀ r M, Q r M → Q' r M) (h : am_ire y Q n0 n c w st M) : am_ire y Q' n0 n c w st M := by
  unfold am_ire at h ⊢; split <;> simp_all
theorem am_lre_mono (hQ : ∀ r M, Q r M → Q' r M) (h : am_lre y Q n0 n c w st M) : am_lre y Q' n0 n c w st M := by
  unfold am_lre at h ⊢; split <;> simp_all
theorem am_vre_mono (hQ : ∀ r M, Q r M → Q' r M) (h : am_vre y Q n0 n c w st M) : am_vre y Q' n0 n c w st M := by
  unfold am_vre at h ⊢; split <;> simp_all
set_option maxHeartbeats 4000000 in
theorem am_wpi_mono (hc : am_mono call) (hP : ∀ n c w pc ls st M, P n c w pc ls st M → P' n c w pc ls st M) (hQ : ∀ r M, Q r M → Q' r M) {i : Instr} {len : Nat} (h : am_wpi call y n0 Q P i len n c w pc ls st M) : am_wpi call y n0 Q' P' i len n c w pc ls st M := by
  cases i <;> first
    | exact False.elim h
    | exact hP _ _ _ _ _ _ _ h
    | exact am_ldI_mono (fun _ q => hP _ _ _ _ _ _ _ q) h
    | exact am_ldL_mono (fun _ q => hP _ _ _ _ _ _ _ q) h
    | exact am_ldR_mono (fun _ q => hP _ _ _ _ _ _ _ q) h
    | exact am_ldI_mono (fun _ q => ⟨q.1, hP _ _ _ _ _ _ _ q.2⟩) h
    | exact am_i1_mono (fun _ _ q => hP _ _ _ _ _ _ _ q) h
    | exact am_i1_mono (fun _ _ q => ⟨q.1, hP _ _ _ _ _ _ _ q.2⟩) h
    | exact am_l1_mono (fun _ _ q => hP _ _ _ _ _ _ _ q) h
    | exact am_l1_mono (fun _ _ q => ⟨q.1, hP _ _ _ _ _ _ _ q.2⟩) h
    | exact am_r1_mono (fun _ _ q => ⟨q.1, hP _ _ _ _ _ _ _ q.2⟩) h
    | exact am_i2_mono (fun _ _ _ q => hP _ _ _ _ _ _ _ q) h
    | exact am_i2_mono (fun _ _ _ q => ⟨q.1, hP _ _ _ _ _ _ _ q.2⟩) h
    | exact am_l2_mono (fun _ _ _ q => hP _ _ _ _ _ _ _ q) h
    | exact am_l2_mono (fun _ _ _ q => ⟨q.1, hP _ _ _ _ _ _ _ q.2⟩) h
    | exact am_li_mono (fun _ _ _ q => hP _ _ _ _ _ _ _ q) h
    | exact am_ri_mono (fun _ _ _ q => ⟨q.1, hP _ _ _ _ _ _ _ q.2⟩) h
    | exact am_rii_mono (fun _ _ _ _ q => ⟨q.1, hP _ _ _ _ _ _ _ q.2⟩) h
    | exact am_rii_mono (fun _ _ _ _ q => q.elim (fun z => Or.inl ⟨z.1, hP _ _ _ _ _ _ _ z.2⟩) (fun z => Or.inr ⟨z.1, z.2.1, hP _ _ _ _ _ _ _ z.2.2⟩)) h
    | exact am_ril_mono (fun _ _ _ _ q => ⟨q.1, hP _ _ _ _ _ _ _ q.2⟩) h
    | exact am_rir_mono (fun _ _ _ _ q => ⟨q.1, hP _ _ _ _ _ _ _ q.2⟩) h
    | exact am_du1_mono (f := fun r => P n c w (pc + len) ls r M) (fun r q => hP n c w (pc + len) ls r M q) h
    | exact am_du2_mono (f := fun r => P n c w (pc + len) ls r M) (fun r q => hP n c w (pc + len) ls r M q) h
    | exact am_po1_mono (f := fun r => P n c w (pc + len) ls r M) (fun r q => hP n c w (pc + len) ls r M q) h
    | exact am_i1_mono (fun _ _ q => am_br_mono (fun _ z => hP _ _ _ _ _ _ _ z) q) h
    | exact am_i2_mono (fun _ _ _ q => am_br_mono (fun _ z => hP _ _ _ _ _ _ _ z) q) h
    | exact ⟨h.1, hP _ _ _ _ _ _ _ h.2⟩
    | exact am_i1_mono (fun _ _ q => ⟨q.1, am_tsw_mono (fun _ z => hP _ _ _ _ _ _ _ z) _ _ q.2.1, fun e => hP _ _ _ _ _ _ _ (q.2.2 e)⟩) h
    | exact am_i1_mono (fun _ _ q => ⟨q.1, am_lsw_mono (fun _ z => hP _ _ _ _ _ _ _ z) _ q.2.1, fun e => hP _ _ _ _ _ _ _ (q.2.2 e)⟩) h
    | exact am_vir_mono hc hP h
    | exact am_sta_mono hc hP h
    | exact am_spe_mono hc hP h
    | exact am_ire_mono hQ h
    | exact am_lre_mono hQ h
    | exact am_vre_mono hQ h
    | exact am_ldc_mono (f := fun v => P n c w (pc + len) ls (v :: st) M) (fun v q => hP n c w (pc + len) ls (v :: st) M q) h
    | exact am_opt_mono (fun _ q => hP _ _ _ _ _ _ _ q) h
    | exact am_opt_mono (fun _ q => am_r1_mono (fun _ _ z => ⟨z.1, hP _ _ _ _ _ _ _ z.2⟩) q) h
    | exact am_opt_mono (fun _ q => am_put_mono (fun _ _ _ z => ⟨z.1, hP _ _ _ _ _ _ _ z.2⟩) q) h
    | exact am_opt_mono (fun _ q => am_i1_mono (fun _ _ z => ⟨z.1, hP _ _ _ _ _ _ _ z.2⟩) q) h
    | exact am_opt_mono (fun _ q => ⟨q.1, hP _ _ _ _ _ _ _ q.2⟩) h
theorem am_wp_mono (hc : am_mono call) (hP : ∀ n c w pc ls st M, P n c w pc ls st M → P' n c w pc ls st M) (hQ : ∀ r M, Q r M → Q' r M) (h : am_wp call y n0 Q P n c w pc ls st M) : am_wp call y n0 Q' P' n c w pc ls st M := by
  unfold am_wp at h ⊢
  split at h
  · exact am_wpi_mono hc hP hQ h
  · exact h.elim
theorem am_ok_fold (hc : am_mono call) (h : am_wp call y n0 Q (am_ok call y n0 Q) n c w pc ls st M) : am_ok call y n0 Q n c w pc ls st M := fun P hP => hP _ _ _ _ _ _ _ (am_wp_mono hc (fun _ _ _ _ _ _ _ q => q P hP) (fun _ _ q => q) h)
theorem am_ok_unfold (hc : am_mono call) (h : am_ok call y n0 Q n c w pc ls st M) : am_wp call y n0 Q (am_ok call y n0 Q) n c w pc ls st M :=
  h (am_wp call y n0 Q (am_ok call y n0 Q)) (fun _ _ _ _ _ _ _ q => am_wp_mono hc (fun _ _ _ _ _ _ _ z => am_ok_fold hc z) (fun _ _ q => q) q)
theorem am_ok_mono (hc : am_mono call) (hQ : ∀ r M, Q r M → Q' r M) (h : am_ok call y n0 Q n c w pc ls st M) : am_ok call y n0 Q' n c w pc ls st M :=
  fun P hP => h P (fun _ _ _ _ _ _ _ q => hP _ _ _ _ _ _ _ (am_wp_mono hc (fun _ _ _ _ _ _ _ z => z) hQ q))
theorem am_app_mono {as : List Value} (hQ : ∀ r M, Q r M → Q' r M) (h : am_app as n M Q) : am_app as n M Q' := by
  unfold am_app at h ⊢
  split at h
  · exact ⟨h.1, fun e => hQ _ _ (h.2.1 e), fun e => hQ _ _ (h.2.2 e)⟩
  · exact h.elim
theorem am_big_mono : ∀ d, am_mono (am_big d)
  | 0 => fun _ _ _ _ _ _ _ h => h
  | d + 1 => fun y as n M K K' hK h => by
    unfold am_big at h ⊢
    cases hs : am_sp y with
    | true => rw [hs] at h; exact am_app_mono hK h
    | false => rw [hs] at h; exact am_ok_mono (am_big_mono d) hK h
end AMMONO
/-- a run of y at depth d -/
def ok (d : Nat) (y : am_Y) (n0 : Nat) (Q : am_Q) (n c w pc : Nat) (ls : List (Option Value)) (st : List Value) (M : am_M) : Prop := am_ok (am_big d) y n0 Q n c w pc ls st M
theorem ok_eq (d : Nat) (y : am_Y) (n0 : Nat) (Q : am_Q) (n c w pc : Nat) (ls : List (Option Value)) (st : List Value) (M : am_M) : ok d y n0 Q n c w pc ls st M = am_wp (am_big d) y n0 Q (ok d y n0 Q) n c w pc ls st M :=
  propext ⟨fun h => am_ok_unfold (am_big_mono d) h, fun h => am_ok_fold (am_big_mono d) h⟩
