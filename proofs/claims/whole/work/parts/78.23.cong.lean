/-! what is read depends on the signs ahead of the end alone -/
section
variable {T T' : Nat → Int32} {len : Nat}
theorem sg_c (h : ∀ k, k < len → T k = T' k) : sg T len = sg T' len := funext fun p => by
  unfold sg
  split
  · exact h _ (by assumption)
  · rfl
theorem sk_c (h : ∀ k, k < len → T k = T' k) : ∀ j p, p + j ≤ len → sk T j p = sk T' j p
  | 0, _, _ => rfl
  | j + 1, p, hp => by
    unfold sk
    rw [h p (by omega), sk_c h j (p + 1) (by omega)]
theorem skp_c (h : ∀ k, k < len → T k = T' k) : skp T len = skp T' len := funext fun p => by
  unfold skp
  by_cases z : p ≤ len
  · exact sk_c h _ _ (by omega)
  · rw [show len - p = 0 by omega]; rfl
theorem rn_c (h : ∀ k, k < len → T k = T' k) (mo : Nat) : ∀ j p g v, p + j ≤ len → rn T mo j p g v = rn T' mo j p g v
  | 0, _, _, _, _ => rfl
  | j + 1, p, g, v, hp => by
    unfold rn
    rw [h p (by omega), rn_c h mo j (p + 1) _ _ (by omega)]
theorem rnum_c (h : ∀ k, k < len → T k = T' k) : rnum T len = rnum T' len := by
  funext mo p
  unfold rnum
  rw [sg_c h, skp_c h]
  by_cases z : skp T' len p + 1 ≤ len
  · rw [rn_c h mo _ _ _ _ (by omega)]
  · rw [show len - (skp T' len p + 1) = 0 by omega]; rfl
theorem rbd_c (h : ∀ k, k < len → T k = T' k) : rbd T len = rbd T' len := by
  funext p lo hi
  unfold rbd
  rw [rnum_c h]
theorem pdd_c (h : ∀ k, k < len → T k = T' k) : pdd T len = pdd T' len := by
  funext p
  unfold pdd
  rw [sg_c h, skp_c h]
theorem pln_c (h : ∀ k, k < len → T k = T' k) : ∀ j, pln T len j = pln T' len j
  | 0 => rfl
  | j + 1 => by
    funext p l
    unfold pln
    rw [sg_c h, skp_c h, pdd_c h, pln_c h j]
theorem wrul_c (h : ∀ k, k < len → T k = T' k) : wrul T len = wrul T' len := by
  funext p lim
  unfold wrul
  rw [sg_c h, skp_c h, rbd_c h]
theorem wit_c (h : ∀ k, k < len → T k = T' k) : wit T len = wit T' len := by
  funext p x hi df
  unfold wit
  rw [sg_c h, skp_c h, rbd_c h]
theorem wapp_c (h : ∀ k, k < len → T k = T' k) : wapp T len = wapp T' len := by
  funext p
  unfold wapp
  rw [sg_c h, skp_c h, rbd_c h, wit_c h]
theorem wks_c (h : ∀ k, k < len → T k = T' k) : ∀ j, wks T len j = wks T' len j
  | 0 => rfl
  | j + 1 => by
    funext p l ru lim
    unfold wks
    rw [sg_c h, skp_c h, wrul_c h, wapp_c h, wks_c h j]
theorem opL_c (h : ∀ k, k < len → T k = T' k) (io : Int32 → Bool) (P : Nat → PR) : ∀ j, opL T len io P j = opL T' len io P j
  | 0 => rfl
  | j + 1 => by
    funext p c
    unfold opL
    rw [sg_c h, skp_c h, opL_c h io P j]
theorem seqQ_c (h : ∀ k, k < len → T k = T' k) : seqQ T len = seqQ T' len := by
  funext P0 io P p
  unfold seqQ
  rw [opL_c h]
theorem clsF_c (h : ∀ k, k < len → T k = T' k) : clsF T len = clsF T' len := by
  funext x r
  unfold clsF
  rw [sg_c h, skp_c h]
theorem atomF_c (h : ∀ k, k < len → T k = T' k) : atomF T len = atomF T' len := by
  funext S p
  unfold atomF
  rw [sg_c h, skp_c h, clsF_c h, rnum_c h]
theorem sumF_c (h : ∀ k, k < len → T k = T' k) : sumF T len = sumF T' len := by
  funext A
  unfold sumF
  rw [seqQ_c h]
theorem sumL_c (h : ∀ k, k < len → T k = T' k) : ∀ j, sumL T len j = sumL T' len j
  | 0 => by unfold sumL; rw [sumF_c h, atomF_c h]
  | j + 1 => by unfold sumL; rw [sumF_c h, atomF_c h, sumL_c h j]
theorem cmpF_c (h : ∀ k, k < len → T k = T' k) : cmpF T len = cmpF T' len := by
  funext S p
  unfold cmpF
  rw [sg_c h, skp_c h]
theorem scmF_c (h : ∀ k, k < len → T k = T' k) : scmF T len = scmF T' len := by
  funext S p
  unfold scmF
  rw [cmpF_c h]
theorem unitF_c (h : ∀ k, k < len → T k = T' k) : unitF T len = unitF T' len := by
  funext U S p
  unfold unitF
  rw [sg_c h, skp_c h, clsF_c h, scmF_c h]
theorem conF_c (h : ∀ k, k < len → T k = T' k) : conF T len = conF T' len := by
  funext U
  unfold conF
  rw [seqQ_c h]
theorem unitL_c (h : ∀ k, k < len → T k = T' k) : ∀ j, unitL T len j = unitL T' len j
  | 0 => by unfold unitL; rw [unitF_c h, sumL_c h]
  | j + 1 => by unfold unitL; rw [unitF_c h, sumL_c h, conF_c h, unitL_c h j]
theorem conS_c (h : ∀ k, k < len → T k = T' k) : conS T len = conS T' len := by
  unfold conS
  rw [seqQ_c h, cmpF_c h, sumL_c h, unitL_c h]
theorem hdr_c (h : ∀ k, k < len → T k = T' k) : hdr T len = hdr T' len := by
  funext p
  unfold hdr
  rw [sg_c h, skp_c h]
theorem qus_c (h : ∀ k, k < len → T k = T' k) : qus T len = qus T' len := by
  funext ok q cc
  unfold qus
  rw [sg_c h, skp_c h, sumL_c h]
theorem clb_c (h : ∀ k, k < len → T k = T' k) : clb T len = clb T' len := by
  funext p
  unfold clb
  rw [sg_c h, skp_c h, sumL_c h, conF_c h, unitL_c h, conS_c h, qus_c h]
theorem cla_c (h : ∀ k, k < len → T k = T' k) : cla T len = cla T' len := by
  funext p
  unfold cla
  rw [hdr_c h, clb_c h, skp_c h]
theorem lawP_c (h : ∀ k, k < len → T k = T' k) : ∀ j, lawP T len j = lawP T' len j
  | 0 => rfl
  | j + 1 => by
    funext p cs
    unfold lawP
    rw [sg_c h, skp_c h, cla_c h, lawP_c h j]
end
theorem tp_c {M : am_M} {tp : List Nat} (h : TC M tp) : ∀ k, k < tp.length → gI M 2 k = tf tp k := fun k hk => by
  rw [h.2.2 k hk]
  unfold tf
  rw [List.getD_eq_getElem?_getD, List.getElem?_eq_getElem hk]
  rfl
