/-! PURE, THE CLASS ALONE: what its calls answer, in numbers -/
section CE
variable {m c : Nat} {w : Nat → Nat} {σ : sg_S}
theorem ce_town (h : cl_A m w c σ) {t k : Nat} (ht : t < 5) (hk : k < 4) : f_X7_townOf (nb t) (nb k) σ = some (nb (w (10 + 4 * t + k))) := by
  obtain ⟨hR, hI, _⟩ := h
  obtain ⟨t1, t2⟩ := nb_townE ht
  unfold f_X7_townOf
  rw [t1, nb_bnd, if_neg nb_10]
  unfold f_X3_weatherOf
  rw [t1, nb_bnd, if_neg nb_10, nb_grd (nb_i5 ht), nb_t5 ht, nb_grd (nb_i5 ht), nb_grd (nb_i5 ht), nb_grd (nb_i5 ht)]
  rcases (by omega : k = 0 ∨ k = 1 ∨ k = 2 ∨ k = 3) with rfl | rfl | rfl | rfl
  · rw [if_neg (by decide), if_neg (by decide), if_neg (by decide), if_pos (by decide), nb_bnd, show sg_e1 1 σ 1 t = nb (w (10 + 4 * t)) from nb_g1 hR.1 ht]
    rfl
  · rw [if_neg (by decide), if_neg (by decide), if_neg (by decide), if_neg (by decide), if_pos (by decide), nb_bnd, show sg_e1 1 σ 2 t = nb (w (11 + 4 * t)) from nb_g2 hR.1 ht, (by omega : 10 + 4 * t + 1 = 11 + 4 * t)]
  · rw [if_neg (by decide), if_neg (by decide), if_neg (by decide), if_neg (by decide), if_neg (by decide), if_pos (by decide), nb_bnd, show sg_e1 1 σ 3 t = nb (w (12 + 4 * t)) from nb_g3 hR.1 ht, (by omega : 10 + 4 * t + 2 = 12 + 4 * t)]
  · rw [if_neg (by decide), if_neg (by decide), if_neg (by decide), if_neg (by decide), if_neg (by decide), if_neg (by decide), if_pos (by decide), nb_bnd, show sg_e1 1 σ 4 t = nb (w (13 + 4 * t)) from nb_g4 hR.1 ht, (by omega : 10 + 4 * t + 3 = 13 + 4 * t)]
theorem ce_town4 (h : cl_A m w c σ) {t : Nat} (ht : t < 5) : f_X7_townOf (nb t) 4 σ = some (nb (gc_no w t)) := by
  obtain ⟨hR, hI, _⟩ := h
  obtain ⟨t1, t2⟩ := nb_townE ht
  unfold f_X7_townOf
  rw [t1, nb_bnd, if_neg nb_10, if_pos rfl, gc_countOf (κ := sg_e1 9 σ) hR.2 (gz_K hI.2) ht, nb_bnd]
theorem ce_town5 (h : cl_A m w c σ) {t : Nat} (ht : t < 5) : f_X7_townOf (nb t) 5 σ = some (nb (gt_c w t)) := by
  obtain ⟨hR, hI, _⟩ := h
  obtain ⟨t1, t2⟩ := nb_townE ht
  unfold f_X7_townOf
  rw [t1, nb_bnd, if_neg nb_10, if_neg (by decide), if_pos rfl, gt_part (gt_T hR hI.2.2.2.2.1) ht, nb_bnd]
  rfl
theorem ce_town6 (h : cl_A m w c σ) {t : Nat} (ht : t < 5) : f_X7_townOf (nb t) 6 σ = some (nb (gz_g (gw_a w) t 0 + gz_g (gw_a w) t 1 + gz_g (gw_a w) t 2 + gz_g (gw_a w) t 3 + gz_g (gw_a w) t 4)) := by
  obtain ⟨hR, hI, _⟩ := h
  obtain ⟨t1, t2⟩ := nb_townE ht
  unfold f_X7_townOf
  rw [t1, nb_bnd, if_neg nb_10, if_neg (by decide), if_neg (by decide), if_pos rfl, gf_led (gt_T hR hI.2.2.2.2.1) ht, nb_bnd, gz_cnt ht]
  exact congrArg some (nb_sub (b := 1) (by omega))
theorem ce_cr (h : cl_A m w c σ) {i k : Nat} (hi : i < w 1) (hk : k < 3) : f_X7_creditOf (nb i) (nb k) σ = some (nb (w (55 + 3 * i + k))) := by
  obtain ⟨hR, hI, _⟩ := h
  obtain ⟨j1, j2, j3, j4, j5, j6, j7⟩ := id hI.2
  have s9 : (sg_e1 9 σ) 0 0 = nb (w 1) := nb_g8 hR
  obtain ⟨a1, a2, a3⟩ := hR.2.2 i hi
  have b1 : σ 10 i = nb (w (55 + 3 * i)) := a1
  have b2 : σ 11 i = nb (w (56 + 3 * i)) := a2
  have b3 : σ 12 i = nb (w (57 + 3 * i)) := a3
  unfold f_X7_creditOf
  rw [gs_there s9 j1 hi, nb_bnd, if_neg nb_10, nb_grd (nb_i8 (by omega)), nb_grd (nb_i8 (by omega)), nb_grd (nb_i8 (by omega)), nb_grd (nb_i8 (by omega)), nb_t8 (by omega), b1, b2, b3]
  rcases (by omega : k = 0 ∨ k = 1 ∨ k = 2) with rfl | rfl | rfl
  · rw [if_pos (by decide)]
    rfl
  · rw [if_neg (by decide), if_pos (by decide), (by omega : 55 + 3 * i + 1 = 56 + 3 * i)]
  · rw [if_neg (by decide), if_neg (by decide), if_pos (by decide), (by omega : 55 + 3 * i + 2 = 57 + 3 * i)]
theorem ce_cr3 (h : cl_A m w c σ) {i : Nat} (hi : i < w 1) : f_X7_creditOf (nb i) 3 σ = some (nb (w (57 + 3 * i) - w 0)) := by
  obtain ⟨hR, hI, _⟩ := h
  obtain ⟨j1, j2, j3, j4, j5, j6, j7⟩ := id hI.2
  have s9 : (sg_e1 9 σ) 0 0 = nb (w 1) := nb_g8 hR
  obtain ⟨a1, a2, a3⟩ := hR.2.2 i hi
  have b3 : σ 12 i = nb (w (57 + 3 * i)) := a3
  have b0 : σ 1 0 = nb (w 0) := nb_g0 hR.1
  have l := (j6 i hi).2.2.2.1
  unfold f_X7_creditOf
  rw [gs_there s9 j1 hi, nb_bnd, if_neg nb_10, nb_grd (nb_i8 (by omega)), nb_grd (nb_i8 (by omega)), nb_grd (nb_i8 (by omega)), nb_grd (nb_i8 (by omega)), nb_t8 (by omega), b3, b0, if_neg (by decide), if_neg (by decide), if_neg (by decide), if_pos rfl, nb_sub l]
theorem ce_crN (h : cl_A m w c σ) (y : Int32) : f_X7_creditOf (nb (w 1)) y σ = some (-1) := by
  obtain ⟨hR, hI, _⟩ := h
  obtain ⟨j1, j2, j3, j4, j5, j6, j7⟩ := id hI.2
  have s9 : (sg_e1 9 σ) 0 0 = nb (w 1) := nb_g8 hR
  unfold f_X7_creditOf
  rcases gy_isC (cl_tV w σ) j1 (nb (w 1)) with ⟨q, hq, e, _⟩ | ⟨_, q2⟩
  · have := (nb_eq (by omega) (by omega)).mp e
    omega
  · rw [q2 _ s9, nb_bnd, if_pos rfl]
theorem ce_owes (h : cl_A m w c σ) {t : Nat} (ht : t < 5) : f_X7_owes (nb t) σ = some (nb (gc_by w t)) := by
  obtain ⟨hR, hI, _⟩ := h
  obtain ⟨t1, t2⟩ := nb_townE ht
  unfold f_X7_owes
  rw [t1, nb_bnd, if_neg nb_10, gc_owedBy (κ := sg_e1 9 σ) hR.2 (gz_K hI.2) ht, nb_bnd]
theorem ce_owes2 (h : cl_A m w c σ) {t : Nat} (ht : t < 5) : f_X7_owesAgain (nb t) σ = some (nb (gc_by w t)) := by
  obtain ⟨hR, hI, _⟩ := h
  obtain ⟨t1, t2⟩ := nb_townE ht
  unfold f_X7_owesAgain
  rw [t1, nb_bnd, if_neg nb_10, gz_byM hR hI ht, nb_bnd]
theorem ce_due (h : cl_A m w c σ) {k : Nat} (hk : k ≤ 6) : f_X7_due (nb k) σ = some (nb (gc_du w (w 0 + k))) := by
  obtain ⟨hR, hI, _⟩ := h
  have hK := gz_K hI.2
  obtain ⟨j1, j2, j3, j4, j5, j6, j7⟩ := id hI.2
  have b0 : σ 1 0 = nb (w 0) := nb_g0 hR.1
  unfold f_X7_due
  rw [if_pos (nb_0le (by omega)), if_neg (show ¬ (6 : Int32) < nb k from nb_lt_f (a := 6) hk (by decide))]
  refine (gt_sum (L := f_X7_due_L17 (nb k) σ) (g := fun t => gc_to w t (w 0 + k)) (E := fun z => some (nb z)) (fun n z i hi => ?_) (fun n z => ?_)).trans ?_
  · rw [f_X7_due_L17, if_pos (nb_lt5 hi), b0, nb_add, gc_owedIn (κ := sg_e1 9 σ) hR.2 hK hi (by omega), nb_bnd, nb_let, nb_add, nb_succ]
  · rw [f_X7_due_L17, if_neg nb_nlt5]
  · show some (nb (gc_to w 0 (w 0 + k) + gc_to w 1 (w 0 + k) + gc_to w 2 (w 0 + k) + gc_to w 3 (w 0 + k) + gc_to w 4 (w 0 + k))) = _
    rw [gc_towns hK]
theorem ce_due7 (σ : sg_S) : f_X7_due 7 σ = some (-2) := by
  unfold f_X7_due
  rw [if_pos (by decide), if_pos (by decide)]
theorem ce_far (h : cl_A m w c σ) {t o : Nat} (ht : t < 5) (ho : o < 5) : f_X7_far (nb t) (nb o) σ = some (gf_far (gw_a w) t o) := by
  obtain ⟨hR, hI, _⟩ := h
  obtain ⟨t1, t2⟩ := nb_townE ht
  obtain ⟨u1, u2⟩ := nb_townE ho
  unfold f_X7_far
  rw [t1, nb_bnd, if_neg nb_10, u1, nb_bnd, if_neg nb_10, gf_steps (gt_T hR hI.2.2.2.2.1) ht ho, nb_bnd]
theorem ce_far5 (σ : sg_S) : f_X7_far 0 5 σ = some (-1) := by
  have t1 : f_X7_isTown 0 = some 1 := by decide
  have t2 : f_X7_isTown 5 = some 0 := by decide
  unfold f_X7_far
  rw [t1, nb_bnd, if_neg nb_10, t2, nb_bnd, if_pos rfl]
theorem ce_driz (h : cl_A m w c σ) {f H t : Nat} (hf : f < 5) (ht : t < 5) (h1 : 1 ≤ H) (h2 : H ≤ 20) : ∃ σ2, f_X7_drizzle (nb f) (nb H) (nb t) σ = some (nb (gf_g (gw_a w) f H t), σ2) ∧ gx_f1 σ σ2 := by
  obtain ⟨hR, hI, _⟩ := h
  have hT := gt_T hR hI.2.2.2.2.1
  obtain ⟨t1, t2⟩ := nb_townE hf
  obtain ⟨u1, u2⟩ := nb_townE ht
  have v1 : f_X7_isHours (nb H) = some 1 := by
    rcases nb_hours (nb H) with ⟨_, _, _, _, v1, _⟩ | ⟨_, v2⟩
    · exact v1
    · rcases nb_isIn (nb H) 1 20 (by decide) (by decide) with ⟨_, _, _, _, z⟩ | ⟨hn, _⟩
      · have z2 : f_X8_isIn (nb H) 1 20 = some 1 := z
        rw [z2] at v2
        cases v2
      · exact absurd ⟨nb_le_t h1 (by omega), nb_le_t h2 (by decide)⟩ hn
  refine ⟨_, ?_, gz_f1m (τ := gf_D (sg_e1 6 σ) (gf_g (gw_a w) f H)) (fun p k hp => gf_Sne hp k)⟩
  unfold f_X7_drizzle
  rw [t1, nb_bnd, if_neg nb_10, u1, nb_bnd, if_neg nb_10, v1, nb_bnd, if_neg nb_10, gf_spread hT hf (by omega), nb_bnd, nb_let, nb_grd (nb_i5 ht), nb_t5 ht, nb_m1, if_pos (by omega)]
  have e3 : gf_D (sg_e1 6 σ) (gf_g (gw_a w) f H) (8 - 6) t = nb (gf_g (gw_a w) f H t) := gf_Sat ht
  rw [e3]
theorem ce_drizB (σ : sg_S) : f_X7_drizzle 0 21 0 σ = some (-2, σ) := by
  have t1 : f_X7_isTown 0 = some 1 := by decide
  have t2 : f_X7_isHours 21 = some 0 := by decide
  unfold f_X7_drizzle
  rw [t1, nb_bnd, if_neg nb_10, nb_bnd, if_neg nb_10, t2, nb_bnd, if_pos rfl]
theorem ce_drizA (h : cl_A m w c σ) {f H t : Nat} (hf : f < 5) (ht : t < 5) (h1 : 1 ≤ H) (h2 : H ≤ 20) : f_X7_drizzleAgain (nb f) (nb H) (nb t) σ = some (nb (gf_g (gw_a w) f H t)) := by
  obtain ⟨hR, hI, _⟩ := h
  have hT := gt_T hR hI.2.2.2.2.1
  obtain ⟨t1, t2⟩ := nb_townE hf
  obtain ⟨u1, u2⟩ := nb_townE ht
  have v1 : f_X7_isHours (nb H) = some 1 := by
    rcases nb_hours (nb H) with ⟨_, _, _, _, v1, _⟩ | ⟨_, v2⟩
    · exact v1
    · rcases nb_isIn (nb H) 1 20 (by decide) (by decide) with ⟨_, _, _, _, z⟩ | ⟨hn, _⟩
      · have z2 : f_X8_isIn (nb H) 1 20 = some 1 := z
        rw [z2] at v2
        cases v2
      · exact absurd ⟨nb_le_t h1 (by omega), nb_le_t h2 (by decide)⟩ hn
  unfold f_X7_drizzleAgain
  rw [t1, nb_bnd, if_neg nb_10, u1, nb_bnd, if_neg nb_10, v1, nb_bnd, if_neg nb_10, gf_halved hT hf ht (by omega), nb_bnd]
def ce_acc (w : Nat → Nat) (c k : Nat) : Nat := if k = 0 then w 0 else if k = 1 then w 1 else if k = 2 then gt_n w / 2 else if k = 3 then ga_s w 0 else if k = 4 then ga_s w 1 else if k = 5 then ga_s w 3 else if k = 6 then ga_s w 2 else if k = 14 then 0 else if k = 15 then c else w (k - 5)
theorem ce_lt16 {k : Nat} (h : k < 16) : k = 0 ∨ k = 1 ∨ k = 2 ∨ k = 3 ∨ k = 4 ∨ k = 5 ∨ k = 6 ∨ k = 7 ∨ k = 8 ∨ k = 9 ∨ k = 10 ∨ k = 11 ∨ k = 12 ∨ k = 13 ∨ k = 14 ∨ k = 15 := by omega
theorem ce_len (h : σ 161 3 = 0) : f_J4_length_8abf5 (sg_e1 161 σ) = some 0 := by
  unfold f_J4_length_8abf5 f_J5_length_8abf5
  rw [show sg_e1 161 σ 0 3 = 0 from h]
  rfl
theorem ce_account (h : cl_A m w c σ) {k : Nat} (hk : k < 16) : f_X7_account (nb k) σ = some (nb (ce_acc w c k)) := by
  obtain ⟨hR, hI, ⟨s, hh⟩, _, ht⟩ := h
  have hT := gt_T hR hI.2.2.2.2.1
  have b : ∀ k j, ((k = 0 ∧ j = 2) ∨ (k = 1 ∧ j = 3) ∨ (3 ≤ k ∧ k < 8 ∧ j = k + 1)) → sg_e1 13 σ 0 k = nb (w j) := fun k j hk => nb_gb hR.1 hk
  unfold f_X7_account
  rcases ce_lt16 hk with rfl | rfl | rfl | rfl | rfl | rfl | rfl | rfl | rfl | rfl | rfl | rfl | rfl | rfl | rfl | rfl
  · rw [if_pos (by decide)]
    exact congrArg some (nb_g0 hR.1)
  · rw [if_neg (by decide), if_pos (by decide)]
    exact congrArg some (nb_g8 hR)
  · rw [if_neg (by decide), if_neg (by decide), if_pos (by decide), gt_all1 hT, nb_bnd]
    rfl
  · rw [if_neg (by decide), if_neg (by decide), if_neg (by decide), if_pos (by decide), show f_X7_sumOf (sg_e1 2 σ) = some (nb (ga_s w 0)) from ga_cls (p := 1) hR rfl (by omega), nb_bnd]
    rfl
  · rw [if_neg (by decide), if_neg (by decide), if_neg (by decide), if_neg (by decide), if_pos (by decide), show f_X7_sumOf (sg_e1 3 σ) = some (nb (ga_s w 1)) from ga_cls (p := 2) hR rfl (by omega), nb_bnd]
    rfl
  · rw [if_neg (by decide), if_neg (by decide), if_neg (by decide), if_neg (by decide), if_neg (by decide), if_pos (by decide), show f_X7_sumOf (sg_e1 5 σ) = some (nb (ga_s w 3)) from ga_cls (p := 4) hR rfl (by omega), nb_bnd]
    rfl
  · rw [if_neg (by decide), if_neg (by decide), if_neg (by decide), if_neg (by decide), if_neg (by decide), if_neg (by decide), if_pos (by decide), show f_X7_sumOf (sg_e1 4 σ) = some (nb (ga_s w 2)) from ga_cls (p := 3) hR rfl (by omega), nb_bnd]
    rfl
  · rw [if_neg (by decide), if_neg (by decide), if_neg (by decide), if_neg (by decide), if_neg (by decide), if_neg (by decide), if_neg (by decide), if_pos (by decide)]
    unfold f_X0_entryOf
    rw [if_pos (by decide), nb_bnd, b 0 2 (by omega)]
    rfl
  · rw [if_neg (by decide), if_neg (by decide), if_neg (by decide), if_neg (by decide), if_neg (by decide), if_neg (by decide), if_neg (by decide), if_neg (by decide), if_pos (by decide)]
    unfold f_X0_entryOf
    rw [if_neg (by decide), if_pos (by decide), nb_bnd, b 1 3 (by omega)]
    rfl
  · rw [if_neg (by decide), if_neg (by decide), if_neg (by decide), if_neg (by decide), if_neg (by decide), if_neg (by decide), if_neg (by decide), if_neg (by decide), if_neg (by decide), if_pos (by decide)]
    unfold f_X0_entryOf
    rw [if_neg (by decide), if_neg (by decide), if_pos (by decide), nb_bnd, b 3 4 (by omega)]
    rfl
  · rw [if_neg (by decide), if_neg (by decide), if_neg (by decide), if_neg (by decide), if_neg (by decide), if_neg (by decide), if_neg (by decide), if_neg (by decide), if_neg (by decide), if_neg (by decide), if_pos (by decide)]
    unfold f_X0_entryOf
    rw [if_neg (by decide), if_neg (by decide), if_neg (by decide), if_pos (by decide), nb_bnd, b 4 5 (by omega)]
    rfl
  · rw [if_neg (by decide), if_neg (by decide), if_neg (by decide), if_neg (by decide), if_neg (by decide), if_neg (by decide), if_neg (by decide), if_neg (by decide), if_neg (by decide), if_neg (by decide), if_neg (by decide), if_pos (by decide)]
    unfold f_X0_entryOf
    rw [if_neg (by decide), if_neg (by decide), if_neg (by decide), if_neg (by decide), if_pos (by decide), nb_bnd, b 5 6 (by omega)]
    rfl
  · rw [if_neg (by decide), if_neg (by decide), if_neg (by decide), if_neg (by decide), if_neg (by decide), if_neg (by decide), if_neg (by decide), if_neg (by decide), if_neg (by decide), if_neg (by decide), if_neg (by decide), if_neg (by decide), if_pos (by decide)]
    unfold f_X0_entryOf
    rw [if_neg (by decide), if_neg (by decide), if_neg (by decide), if_neg (by decide), if_neg (by decide), if_pos (by decide), nb_bnd, b 6 7 (by omega)]
    rfl
  · rw [if_neg (by decide), if_neg (by decide), if_neg (by decide), if_neg (by decide), if_neg (by decide), if_neg (by decide), if_neg (by decide), if_neg (by decide), if_neg (by decide), if_neg (by decide), if_neg (by decide), if_neg (by decide), if_neg (by decide), if_pos (by decide)]
    unfold f_X0_entryOf
    rw [if_neg (by decide), if_neg (by decide), if_neg (by decide), if_neg (by decide), if_neg (by decide), if_neg (by decide), if_pos (by decide), nb_bnd, b 7 8 (by omega)]
    rfl
  · rw [if_neg (by decide), if_neg (by decide), if_neg (by decide), if_neg (by decide), if_neg (by decide), if_neg (by decide), if_neg (by decide), if_neg (by decide), if_neg (by decide), if_neg (by decide), if_neg (by decide), if_neg (by decide), if_neg (by decide), if_neg (by decide), if_pos (by decide), ce_len ht, nb_bnd]
    rfl
  · rw [if_neg (by decide), if_neg (by decide), if_neg (by decide), if_neg (by decide), if_neg (by decide), if_neg (by decide), if_neg (by decide), if_neg (by decide), if_neg (by decide), if_neg (by decide), if_neg (by decide), if_neg (by decide), if_neg (by decide), if_neg (by decide), if_neg (by decide), if_pos (by decide)]
    exact congrArg some hh.2.2.1
theorem ce_acc16 (σ : sg_S) : f_X7_account 16 σ = some (-2) := by
  unfold f_X7_account
  rw [if_neg (by decide), if_neg (by decide), if_neg (by decide), if_neg (by decide), if_neg (by decide), if_neg (by decide), if_neg (by decide), if_neg (by decide), if_neg (by decide), if_neg (by decide), if_neg (by decide), if_neg (by decide), if_neg (by decide), if_neg (by decide), if_neg (by decide), if_neg (by decide)]
  unfold f_X0_entryOf
  rw [if_neg (by decide), if_neg (by decide), if_neg (by decide), if_neg (by decide), if_neg (by decide), if_neg (by decide), if_neg (by decide), nb_bnd]
theorem ce_counted (h : cl_A m w c σ) : ∃ σ2, f_X7_isCounted σ = some (1, σ2) ∧ gx_f1 σ σ2 := by
  obtain ⟨hR, hI, _⟩ := h
  obtain ⟨j1, j2, j3, j4, j5, j6, j7⟩ := id hI.2
  obtain ⟨σ2, e2, f2⟩ := ga_driz j4 5 0 1000 σ (by decide) (by decide) hR j1
  have e2' : f_X7_isDrizzleAlike σ = some (1, σ2) := e2
  have hR2 : nb_R (sg_e1 1 σ2) w := nb_Rx hR j1 (fun _ _ => rfl) (fun p k hp _ h7 => (f2 _ _ (by omega) (by omega)).symm)
  have s1 : f_X7_sumOf (sg_e1 1 (sg_e1 1 σ2)) = some (nb (ga_s w 0)) := ga_sum (g := fun t => w (10 + 4 * t + 0)) (fun t ht => nb_g1 hR2.1 ht)
  have b0 : sg_e1 1 σ2 12 0 = nb (w 2) := nb_gb hR2.1 (by omega)
  have b1 : sg_e1 1 σ2 12 1 = nb (w 3) := nb_gb hR2.1 (by omega)
  have b2 : sg_e1 1 σ2 12 2 = nb (4 * w 9) := hR2.1.2.2
  have b3 : sg_e1 1 σ2 12 3 = nb (w 4) := nb_gb hR2.1 (by omega)
  have e0 : 50 + w 2 = ga_s w 0 + w 3 + 4 * w 9 + w 4 := by
    have e1 := hI.1.2.1
    have e3 : ga_s w 0 = ge_s w := rfl
    omega
  have e5 : (50 : Int32) + nb (w 2) = nb (ga_s w 0 + w 3 + 4 * w 9 + w 4) := by
    rw [← e0]
    exact nb_add 50 _
  have c1 : f_X3_isSunCounted (sg_e1 1 σ2) = some 1 := by
    unfold f_X3_isSunCounted
    rw [b0, nb_let, s1, nb_bnd, b1, b2, b3, nb_add, nb_add, nb_add, if_pos e5]
  unfold f_X7_isCounted
  rw [ga_owed hR hI, nb_bnd, if_neg nb_10, e2', nb_bnd2, if_neg nb_10, c1, nb_bnd, if_neg nb_10]
  exact ⟨σ2, rfl, f2⟩
theorem ce_write (h : cl_A m w c σ) {t : Nat} (ht : t < 5) : ∃ σ2, f_X7_write (nb t) σ = some (nb (ly_v w t).1, σ2) ∧ (ly_v w t).1 ≤ 88 ∧ qb_I (sg_e1 177 σ2) (ly_v w t).1 (ly_v w t).2 ∧ ∀ p k, p < 177 → σ2 p k = σ p k := by
  obtain ⟨hR, hI, _, ⟨n, f, h1, h2⟩, _⟩ := h
  obtain ⟨j1, j2, j3, j4, j5, j6, j7⟩ := id hI.2
  obtain ⟨b1, b2, b3, b4⟩ := j3 t ht
  obtain ⟨⟨r, σ2⟩, e, e1, e2, e3, e4⟩ := ly_town1 hR ht b1 b2 b3 (by omega) h2
  have e1' : r = nb (ly_v w t).1 := e1
  subst e1'
  exact ⟨σ2, e, e2, e3, e4⟩
theorem ce_write5 (σ : sg_S) : f_X7_write 5 σ = some (-1, σ) := by
  have t2 : f_X7_isTown 5 = some 0 := by decide
  unfold f_X7_write
  rw [t2, nb_bnd, if_pos rfl]
theorem ce_lines (h : cl_A m w c σ) (hm : m < 9900) : ∃ σ2, f_X7_writeCredits σ = some (nb (lz_s w (w 1)).1, σ2) ∧ (lz_s w (w 1)).1 ≤ 88 ∧ qb_I (sg_e1 177 σ2) (lz_s w (w 1)).1 (lz_s w (w 1)).2 ∧ ∀ p k, p < 177 → σ2 p k = σ p k := by
  obtain ⟨hR, hI, _, ⟨n, f, h1, h2⟩, _⟩ := h
  obtain ⟨j1, j2, j3, j4, j5, j6, j7⟩ := id hI.2
  have hK : lz_K w := ⟨j1, fun c hc => by
    obtain ⟨d1, d2, d3, d4, d5⟩ := j6 c hc
    have := hI.1.1
    exact ⟨d1, d3, by omega⟩⟩
  obtain ⟨κ2, e1, e2⟩ := qb_set h2 (fun _ => 0)
  unfold f_X7_writeCredits
  rw [e1, nb_bnd, nb_let]
  have hC : ly_C (10 * 0) σ (sg_m1 177 2 σ κ2) (lz_s w 0) := ly_m1 (s := ly_0) (Nat.le_refl 0) e2 (fun _ _ _ => rfl)
  obtain ⟨⟨r, σ2⟩, e, e3, e4, e5, e6⟩ := lz_l1 hR hK (w 1) 0 1000 _ (by omega) (by omega) hC
  have e3' : r = nb (lz_s w (w 1)).1 := e3
  subst e3'
  exact ⟨σ2, e, e4, e5, e6⟩
theorem ce_written {n : Nat} {f : Nat → Nat} (h : qb_I (sg_e1 177 σ) n f) (hn : n ≤ 88) {i : Nat} (hi : i < n) : f_X7_written (nb i) σ = some (nb (f i)) := by
  unfold f_X7_written
  rw [if_pos (nb_0le (by omega)), qb_len h, nb_bnd, if_pos (nb_lt_t hi (by omega)), qb_at h hi, nb_bnd]
end CE
