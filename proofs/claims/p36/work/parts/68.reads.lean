/-! READS: what both answer between changes -/
theorem gz_K {w : Nat → Nat} {k : Nat} (h : gs_J w k) : gc_K w := by
  obtain ⟨j1, j2, j3, j4, j5, j6, j7⟩ := h
  exact ⟨j1, fun c hc => by
    obtain ⟨k1, k2, k3, k4, k5⟩ := j6 c hc
    exact ⟨k1, by omega, by omega⟩⟩
theorem gz_f1m {σ τ : sg_S} (h : ∀ p k, p ≠ 2 → τ p k = sg_e1 6 σ p k) : gx_f1 σ (sg_m1 6 3 σ τ) := by
  intro p k hp _
  rw [nb_m1]
  by_cases c : 6 ≤ p ∧ p < 6 + 3
  · rw [if_pos c, h (p - 6) k (by omega)]
    show σ (6 + (p - 6)) k = _
    rw [(by omega : 6 + (p - 6) = p)]
  · rw [if_neg c]
theorem gx_f1r (σ : sg_S) : gx_f1 σ σ := fun _ _ _ _ => rfl
theorem gx_f2r (τ : sg_S) : gx_f2 τ τ := fun _ _ _ _ _ _ _ _ => rfl
theorem gx_f1t {a b c : sg_S} (h : gx_f1 a b) (h2 : gx_f1 b c) : gx_f1 a c := fun p k h3 h4 => (h2 p k h3 h4).trans (h p k h3 h4)
theorem gx_f2t {a b c : sg_S} (h : gx_f2 a b) (h2 : gx_f2 b c) : gx_f2 a c := fun p k h3 h4 h5 h6 h7 h8 => (h2 p k h3 h4 h5 h6 h7 h8).trans (h p k h3 h4 h5 h6 h7 h8)
theorem gz_finds {τ : sg_S} {w : Nat → Nat} (hV : nb_V (τ 1) w) (hs : gw_S w) {f : Nat} (hf : f < 5) : ∃ τ1, f_X8_finds (nb f) τ = some τ1 ∧ (∀ t, t < 5 → τ1 7 t = gf_w (gw_a w) f 4 t) ∧ gx_f2 τ τ1 ∧ (∀ k, τ1 1 k = τ 1 k) :=
  ⟨_, gf_finds (gr_E hV hs) hf, fun t ht => gf_Sat ht, fun p k _ _ h7 _ _ _ => gf_Sne h7 k, fun k => gf_Sne (by decide) k⟩
theorem gz_wpos {a : Nat → Nat → Bool} {f t : Nat} : (0 : Int32) < gf_w a f 4 t ↔ 0 < gf_d a f t ∧ gf_d a f t ≤ 4 := by
  unfold gf_w
  by_cases c : gf_d a f t ≤ 4
  · rw [if_pos c]
    constructor
    · intro h
      by_cases d : gf_d a f t = 0
      · rw [d] at h
        exact absurd h nb_npos
      · exact ⟨by omega, c⟩
    · intro h
      exact nb_pos h.1 (by omega)
  · rw [if_neg c]
    exact ⟨fun h => absurd h (by decide), fun h => absurd h.2 c⟩
theorem gz_wneg {a : Nat → Nat → Bool} {f t : Nat} : gf_w a f 4 t < (0 : Int32) ↔ ¬ gf_d a f t ≤ 4 := by
  unfold gf_w
  by_cases c : gf_d a f t ≤ 4
  · rw [if_pos c]
    exact ⟨fun h => absurd h (nb_nneg (by omega)), fun h => absurd c h⟩
  · rw [if_neg c]
    exact ⟨fun _ => c, fun _ => by decide⟩
theorem gz_d0 {a : Nat → Nat → Bool} {f t : Nat} : gf_d a f t = 0 ↔ t = f := by
  have h := gf_dle (a := a) (f := f) (t := t) (k := 0) (by decide)
  constructor
  · intro e
    exact Nat.eq_of_beq_eq_true (h.mp (by omega))
  · intro e
    have := h.mpr (by
      show Nat.beq t f = true
      rw [e]
      exact Nat.beq_refl f)
    omega
def gz_g (a : Nat → Nat → Bool) (f t : Nat) : Nat := if 0 < gf_d a f t ∧ gf_d a f t ≤ 4 then 1 else 0
theorem gz_gt {a : Nat → Nat → Bool} {f t : Nat} : (gf_r a f 4 t).toNat = gz_g a f t + (if t = f then 1 else 0) := by
  have h := gf_dle (a := a) (f := f) (t := t) (k := 4) (by decide)
  have h0 := gz_d0 (a := a) (f := f) (t := t)
  unfold gz_g
  by_cases c : gf_d a f t ≤ 4
  · rw [h.mp c]
    by_cases d : t = f
    · rw [if_pos d, if_neg (by have := h0.mpr d; omega)]
      try rfl
    · rw [if_neg d, if_pos ⟨by
        have : gf_d a f t ≠ 0 := fun e => d (h0.mp e)
        omega, c⟩]
      try rfl
  · have e : gf_r a f 4 t = false := by
      cases hb : gf_r a f 4 t with
      | false => rfl
      | true => exact absurd (h.mpr hb) c
    rw [e, if_neg (fun q => c q.2), if_neg (fun d => c (by rw [h0.mpr d]; omega))]
    try rfl
theorem gz_cnt {a : Nat → Nat → Bool} {f : Nat} (hf : f < 5) : gf_c (gf_r a f 4) = gz_g a f 0 + gz_g a f 1 + gz_g a f 2 + gz_g a f 3 + gz_g a f 4 + 1 := by
  unfold gf_c
  rw [gz_gt, gz_gt, gz_gt, gz_gt, gz_gt]
  rcases (by omega : f = 0 ∨ f = 1 ∨ f = 2 ∨ f = 3 ∨ f = 4) with rfl | rfl | rfl | rfl | rfl
  · rw [if_pos rfl, if_neg (by decide), if_neg (by decide), if_neg (by decide), if_neg (by decide)]
    omega
  · rw [if_neg (by decide), if_pos rfl, if_neg (by decide), if_neg (by decide), if_neg (by decide)]
    omega
  · rw [if_neg (by decide), if_neg (by decide), if_pos rfl, if_neg (by decide), if_neg (by decide)]
    omega
  · rw [if_neg (by decide), if_neg (by decide), if_neg (by decide), if_pos rfl, if_neg (by decide)]
    omega
  · rw [if_neg (by decide), if_neg (by decide), if_neg (by decide), if_neg (by decide), if_pos rfl]
    omega
theorem gz_reached {τ : sg_S} {w : Nat → Nat} (hV : nb_V (τ 1) w) (hs : gw_S w) {f : Nat} (hf : f < 5) : ∃ τ1, f_X8_reached (nb f) τ = some (nb (gf_c (gf_r (gw_a w) f 4)) - 1, τ1) ∧ gx_f2 τ τ1 := by
  obtain ⟨τ1, e, h7, hx, _⟩ := gz_finds hV hs hf
  have hc := gz_cnt (a := gw_a w) hf
  have e1 : nb (gf_c (gf_r (gw_a w) f 4)) - 1 = nb (gz_g (gw_a w) f 0 + gz_g (gw_a w) f 1 + gz_g (gw_a w) f 2 + gz_g (gw_a w) f 3 + gz_g (gw_a w) f 4) := by
    rw [hc]
    exact nb_sub (b := 1) (by omega)
  refine ⟨τ1, ?_, hx⟩
  unfold f_X8_reached
  rw [e, nb_bnd, e1]
  refine gt_sum (L := fun n z i => f_X8_reached_L9 (nb f) n z i τ1) (g := gz_g (gw_a w) f) (E := fun z => some (nb z, τ1)) (fun n z i hi => ?_) (fun n z => ?_)
  · show f_X8_reached_L9 (nb f) (n + 1) (nb z) (nb i) τ1 = f_X8_reached_L9 (nb f) n (nb (z + gz_g (gw_a w) f i)) (nb (i + 1)) τ1
    rw [f_X8_reached_L9, if_pos (nb_lt5 hi), nb_grd (nb_i5 hi), nb_t5 hi, h7 i hi, nb_succ]
    unfold gz_g
    by_cases c : 0 < gf_d (gw_a w) f i ∧ gf_d (gw_a w) f i ≤ 4
    · rw [if_pos (gz_wpos.mpr c), if_pos c, nb_let, nb_succ]
    · rw [if_neg (fun q => c (gz_wpos.mp q)), if_neg c, nb_let, Nat.add_zero]
      have : nb z + 0 = nb z := nb_add z 0
      rw [this, nb_succ]
  · show f_X8_reached_L9 (nb f) (n + 1) (nb z) (nb 5) τ1 = some (nb z, τ1)
    rw [f_X8_reached_L9, if_neg nb_nlt5]
theorem gz_townOf {m : Nat} {σ τ : sg_S} (h : gx_A m σ τ) (x y : Int32) : ∃ r τ2, f_X7_townOf x y σ = some r ∧ f_X8_townOf x y τ = some (r, τ2) ∧ gx_f2 τ τ2 := by
  obtain ⟨⟨w, hR, hV, hI⟩, hW, h6, hH, hS, hf⟩ := h
  obtain ⟨j1, j2, j3, j4, j5, j6, j7⟩ := id hI.2
  have hK := gz_K hI.2
  have hT := gt_T hR j4
  unfold f_X7_townOf f_X8_townOf
  rcases nb_town x with ⟨t, ht, e, t1, t2⟩ | ⟨t1, t2⟩
  · subst e
    rw [t1, t2, nb_bnd, nb_bnd, if_neg nb_10, if_neg nb_10]
    unfold f_X3_weatherOf
    rw [t1, nb_bnd, if_neg nb_10, nb_grd (nb_i5 ht), nb_t5 ht, nb_grd (nb_i5 ht), nb_grd (nb_i5 ht), nb_grd (nb_i5 ht)]
    by_cases c0 : y = 0
    · subst c0
      rw [if_neg (by decide), if_neg (by decide), if_neg (by decide), if_pos rfl, nb_bnd, if_pos rfl, nb_at0, nb_bnd, nb_grd (nb_i79 (by omega)), nb_t79 (by omega), hV _ (by omega)]
      exact ⟨_, τ, rfl, by rw [show sg_e1 1 σ 1 t = nb (w (10 + 4 * t)) from nb_g1 hR.1 ht], gx_f2r τ⟩
    by_cases c1 : y = 1
    · subst c1
      rw [if_neg (by decide), if_neg (by decide), if_neg (by decide), if_neg (by decide), if_pos rfl, nb_bnd, if_neg (by decide), if_pos rfl, nb_at1, nb_bnd, nb_grd (nb_i79 (by omega)), nb_t79 (by omega), hV _ (by omega)]
      exact ⟨_, τ, rfl, by rw [show sg_e1 1 σ 2 t = nb (w (11 + 4 * t)) from nb_g2 hR.1 ht], gx_f2r τ⟩
    by_cases c2 : y = 2
    · subst c2
      rw [if_neg (by decide), if_neg (by decide), if_neg (by decide), if_neg (by decide), if_neg (by decide), if_pos rfl, nb_bnd, if_neg (by decide), if_neg (by decide), if_pos rfl, nb_at2, nb_bnd, nb_grd (nb_i79 (by omega)), nb_t79 (by omega), hV _ (by omega)]
      exact ⟨_, τ, rfl, by rw [show sg_e1 1 σ 3 t = nb (w (12 + 4 * t)) from nb_g3 hR.1 ht], gx_f2r τ⟩
    by_cases c3 : y = 3
    · subst c3
      rw [if_neg (by decide), if_neg (by decide), if_neg (by decide), if_neg (by decide), if_neg (by decide), if_neg (by decide), if_pos rfl, nb_bnd, if_neg (by decide), if_neg (by decide), if_neg (by decide), if_pos rfl, nb_at3, nb_bnd, nb_grd (nb_i79 (by omega)), nb_t79 (by omega), hV _ (by omega)]
      exact ⟨_, τ, rfl, by rw [show sg_e1 1 σ 4 t = nb (w (13 + 4 * t)) from nb_g4 hR.1 ht], gx_f2r τ⟩
    rw [if_neg c0, if_neg c1, if_neg c2, if_neg c3, if_neg c0, if_neg c1, if_neg c2, if_neg c3]
    by_cases c4 : y = 4
    · rw [if_pos c4, if_pos c4, gc_countOf (κ := sg_e1 9 σ) hR.2 hK ht, nb_bnd, gc_vno hV hK ht, nb_bnd]
      exact ⟨_, τ, rfl, rfl, gx_f2r τ⟩
    rw [if_neg c4, if_neg c4]
    by_cases c5 : y = 5
    · rw [if_pos c5, if_pos c5, gt_part hT ht, nb_bnd, gt_ct hV j4 ht, nb_bnd]
      exact ⟨_, τ, rfl, rfl, gx_f2r τ⟩
    rw [if_neg c5, if_neg c5]
    by_cases c6 : y = 6
    · obtain ⟨τ1, e1, e2⟩ := gz_reached hV j4 ht
      rw [if_pos c6, if_pos c6, gf_led hT ht, nb_bnd, e1, nb_bnd2]
      exact ⟨_, τ1, rfl, rfl, e2⟩
    rw [if_neg c6, if_neg c6, nb_bnd]
    exact ⟨_, τ, rfl, rfl, gx_f2r τ⟩
  · rw [t1, t2, nb_bnd, nb_bnd, if_pos rfl, if_pos rfl]
    exact ⟨_, τ, rfl, rfl, gx_f2r τ⟩
theorem gz_creditOf {m : Nat} {σ τ : sg_S} (h : gx_A m σ τ) (x y : Int32) : ∃ r, f_X7_creditOf x y σ = some r ∧ f_X8_creditOf x y τ = some r := by
  obtain ⟨⟨w, hR, hV, hI⟩, hW, h6, hH, hS, hf⟩ := h
  obtain ⟨j1, j2, j3, j4, j5, j6, j7⟩ := id hI.2
  have s9 : (sg_e1 9 σ) 0 0 = nb (w 1) := nb_g8 hR
  unfold f_X7_creditOf f_X8_creditOf
  rcases gy_isC hV j1 x with ⟨c, hc, e, q⟩ | ⟨q, q2⟩
  · subst e
    obtain ⟨a1, a2, a3⟩ := hR.2.2 c hc
    have b1 : σ 10 c = nb (w (55 + 3 * c)) := a1
    have b2 : σ 11 c = nb (w (56 + 3 * c)) := a2
    have b3 : σ 12 c = nb (w (57 + 3 * c)) := a3
    have b0 : σ 1 0 = nb (w 0) := nb_g0 hR.1
    rw [gs_there s9 j1 hc, q, nb_bnd, nb_bnd, if_neg nb_10, if_neg nb_10, nb_grd (nb_i8 (by omega)), nb_grd (nb_i8 (by omega)), nb_grd (nb_i8 (by omega)), nb_grd (nb_i8 (by omega)), nb_t8 (by omega), b1, b2, b3, b0]
    rcases nb_isIn y 0 2 (by decide) (by decide) with ⟨k, hk0, hk, e, z⟩ | ⟨hn, z⟩
    · have z2 : f_X8_isIn y 0 2 = some 1 := z
      subst e
      rw [z2, nb_bnd, if_neg nb_10, nb_inn, nb_bnd, nb_grd (nb_i79 (by omega)), nb_t79 (by omega), hV _ (by omega)]
      rcases (by omega : k = 0 ∨ k = 1 ∨ k = 2) with rfl | rfl | rfl
      · rw [if_pos (by decide)]
        exact ⟨_, rfl, rfl⟩
      · rw [if_neg (by decide), if_pos (by decide)]
        exact ⟨_, rfl, by rw [(by omega : 55 + 3 * c + 1 = 56 + 3 * c)]⟩
      · rw [if_neg (by decide), if_neg (by decide), if_pos (by decide)]
        exact ⟨_, rfl, by rw [(by omega : 55 + 3 * c + 2 = 57 + 3 * c)]⟩
    · have z2 : f_X8_isIn y 0 2 = some 0 := z
      have n0 : ¬ y = 0 := fun e => hn (by rw [e]; decide)
      have n1 : ¬ y = 1 := fun e => hn (by rw [e]; decide)
      have n2 : ¬ y = 2 := fun e => hn (by rw [e]; decide)
      rw [z2, nb_bnd, if_pos rfl, if_neg n0, if_neg n1, if_neg n2, nb_in2, nb_bnd, nb_grd (nb_i79 (by omega)), nb_t79 (by omega), hV (57 + 3 * c) (by omega), hV 0 (by decide)]
      exact ⟨if y = 3 then nb (w (57 + 3 * c)) - nb (w 0) else -2, by split <;> rfl, by split <;> rfl⟩
  · rw [q2 _ s9, q, nb_bnd, nb_bnd, if_pos rfl, if_pos rfl]
    exact ⟨_, rfl, rfl⟩
theorem gz_owes {m : Nat} {σ τ : sg_S} (h : gx_A m σ τ) (x : Int32) : ∃ r, f_X7_owes x σ = some r ∧ f_X8_owes x τ = some r := by
  obtain ⟨⟨w, hR, hV, hI⟩, hW, h6, hH, hS, hf⟩ := h
  have hK := gz_K hI.2
  unfold f_X7_owes
  rcases nb_town x with ⟨t, ht, e, t1, t2⟩ | ⟨t1, t2⟩
  · subst e
    rw [t1, nb_bnd, if_neg nb_10, gc_owedBy (κ := sg_e1 9 σ) hR.2 hK ht, nb_bnd, gc_vby hV hK ht]
    exact ⟨_, rfl, rfl⟩
  · unfold f_X8_owes
    rw [t1, t2, nb_bnd, nb_bnd, if_pos rfl, if_pos rfl]
    exact ⟨_, rfl, rfl⟩
theorem gz_byM {m : Nat} {σ : sg_S} {w : Nat → Nat} (hR : nb_R (sg_e1 1 σ) w) (hI : gi_I m w) {t : Nat} (ht : t < 5) : f_X3_owedByMonths (nb t) (sg_e1 1 σ) = some (nb (gc_by w t)) := by
  obtain ⟨j1, j2, j3, j4, j5, j6, j7⟩ := id hI.2
  exact gc_byMonths hR.2 (nb_g0 hR.1) (gz_K hI.2) ht (by omega) (fun c hc => by
    obtain ⟨k1, k2, k3, k4, k5⟩ := j6 c hc
    exact ⟨k4, k5⟩)
theorem gz_owesAgain {m : Nat} {σ τ : sg_S} (h : gx_A m σ τ) (x : Int32) : ∃ r, f_X7_owesAgain x σ = some r ∧ f_X8_owesAgain x τ = some r := by
  obtain ⟨⟨w, hR, hV, hI⟩, hW, h6, hH, hS, hf⟩ := h
  have hK := gz_K hI.2
  unfold f_X7_owesAgain f_X8_owesAgain
  rcases nb_town x with ⟨t, ht, e, t1, t2⟩ | ⟨t1, t2⟩
  · subst e
    rw [t1, nb_bnd, if_neg nb_10, gz_byM hR hI ht, nb_bnd, gc_vby hV hK ht, nb_bnd]
    exact ⟨_, rfl, rfl⟩
  · unfold f_X8_owes
    rw [t1, t2, nb_bnd, nb_bnd, if_pos rfl, if_pos rfl, nb_bnd]
    exact ⟨_, rfl, rfl⟩
theorem gz_due {m : Nat} {σ τ : sg_S} (h : gx_A m σ τ) (x : Int32) : ∃ r, f_X7_due x σ = some r ∧ f_X8_due x τ = some r := by
  obtain ⟨⟨w, hR, hV, hI⟩, hW, h6, hH, hS, hf⟩ := h
  have hK := gz_K hI.2
  obtain ⟨j1, j2, j3, j4, j5, j6, j7⟩ := id hI.2
  unfold f_X7_due f_X8_due
  rcases nb_isIn x 0 6 (by decide) (by decide) with ⟨k, hk0, hk, e, z⟩ | ⟨hn, z⟩
  · have z2 : f_X8_isIn x 0 6 = some 1 := z
    subst e
    have b0 : σ 1 0 = nb (w 0) := nb_g0 hR.1
    rw [if_pos (nb_0le (by omega)), if_neg (show ¬ (6 : Int32) < nb k from nb_lt_f (a := 6) hk (by decide)), z2, nb_bnd, if_neg nb_10, gc_vdu hV hK (by omega)]
    refine ⟨_, ?_, rfl⟩
    refine (gt_sum (L := f_X7_due_L17 (nb k) σ) (g := fun t => gc_to w t (w 0 + k)) (E := fun z => some (nb z)) (fun n z i hi => ?_) (fun n z => ?_)).trans ?_
    · rw [f_X7_due_L17, if_pos (nb_lt5 hi), b0, nb_add, gc_owedIn (κ := sg_e1 9 σ) hR.2 hK hi (by omega), nb_bnd, nb_let, nb_add, nb_succ]
    · rw [f_X7_due_L17, if_neg nb_nlt5]
    · show some (nb (gc_to w 0 (w 0 + k) + gc_to w 1 (w 0 + k) + gc_to w 2 (w 0 + k) + gc_to w 3 (w 0 + k) + gc_to w 4 (w 0 + k))) = _
      rw [gc_towns hK]
  · have z2 : f_X8_isIn x 0 6 = some 0 := z
    rw [z2, nb_bnd, if_pos rfl]
    refine ⟨_, ?_, rfl⟩
    by_cases d : (0 : Int32) ≤ x
    · rw [if_pos d, if_pos (show (6 : Int32) < x from Int32.not_le.mp (fun d2 => hn ⟨d, d2⟩))]
    · rw [if_neg d]
theorem gz_far {m : Nat} {σ τ : sg_S} (h : gx_A m σ τ) (x y : Int32) : ∃ r τ2, f_X7_far x y σ = some r ∧ f_X8_far x y τ = some (r, τ2) ∧ gx_f2 τ τ2 := by
  obtain ⟨⟨w, hR, hV, hI⟩, hW, h6, hH, hS, hf⟩ := h
  obtain ⟨j1, j2, j3, j4, j5, j6, j7⟩ := id hI.2
  have hT := gt_T hR j4
  unfold f_X7_far f_X8_far
  rcases nb_town x with ⟨t, ht, e, t1, t2⟩ | ⟨t1, t2⟩
  · subst e
    rw [t1, t2, nb_bnd, nb_bnd, if_neg nb_10, if_neg nb_10]
    rcases nb_town y with ⟨o, ho, e, u1, u2⟩ | ⟨u1, u2⟩
    · subst e
      obtain ⟨τ1, e1, e7, ex, _⟩ := gz_finds hV j4 ht
      rw [u1, u2, nb_bnd, nb_bnd, if_neg nb_10, if_neg nb_10, gf_steps hT ht ho, nb_bnd, e1, nb_bnd, nb_grd (nb_i5 ho), nb_t5 ho, e7 o ho]
      refine ⟨_, τ1, rfl, ?_, ex⟩
      unfold gf_far
      by_cases c : gf_d (gw_a w) t o ≤ 4
      · rw [if_neg (fun q => gz_wneg.mp q c), if_pos c]
        unfold gf_w
        rw [if_pos c]
      · rw [if_pos (gz_wneg.mpr c), if_neg c]
    · rw [u1, u2, nb_bnd, nb_bnd, if_pos rfl, if_pos rfl]
      exact ⟨_, τ, rfl, rfl, gx_f2r τ⟩
  · rw [t1, t2, nb_bnd, nb_bnd, if_pos rfl, if_pos rfl]
    exact ⟨_, τ, rfl, rfl, gx_f2r τ⟩
theorem gz_driz2 {τ : sg_S} {w : Nat → Nat} (hV : nb_V (τ 1) w) (hs : gw_S w) {f t H : Nat} (hf : f < 5) (ht : t < 5) (hH : H < 2147483648) (hy : f_X8_isIn (nb H) 1 20 = some 1) : ∃ τ2, f_X8_drizzle (nb f) (nb H) (nb t) τ = some (nb (gf_g (gw_a w) f H t), τ2) ∧ gx_f2 τ τ2 := by
  obtain ⟨τ1, e1, e7, ex, _⟩ := gz_finds hV hs hf
  refine ⟨τ1, ?_, ex⟩
  unfold f_X8_drizzle
  rw [(nb_townE hf).2, nb_bnd, if_neg nb_10, (nb_townE ht).2, nb_bnd, if_neg nb_10, hy, nb_bnd, if_neg nb_10, e1, nb_bnd, gf_share ht hH (e7 t ht), nb_bnd]
theorem gz_drizzle {m : Nat} {σ τ : sg_S} (h : gx_A m σ τ) (x y z : Int32) : ∃ r σ2 τ2, f_X7_drizzle x y z σ = some (r, σ2) ∧ f_X8_drizzle x y z τ = some (r, τ2) ∧ gx_f1 σ σ2 ∧ gx_f2 τ τ2 := by
  obtain ⟨⟨w, hR, hV, hI⟩, hW, h6, hH, hS, hf⟩ := h
  obtain ⟨j1, j2, j3, j4, j5, j6, j7⟩ := id hI.2
  have hT := gt_T hR j4
  rcases nb_town x with ⟨f, hf, e, t1, t2⟩ | ⟨t1, t2⟩
  · subst e
    rcases nb_town z with ⟨t, ht, e, u1, u2⟩ | ⟨u1, u2⟩
    · subst e
      rcases nb_hours y with ⟨H, hH1, hH2, e, v1, v2⟩ | ⟨v1, v2⟩
      · subst e
        obtain ⟨τ2, e2, ex⟩ := gz_driz2 hV j4 hf ht (by omega) v2
        refine ⟨_, _, τ2, ?_, e2, gz_f1m (τ := gf_D (sg_e1 6 σ) (gf_g (gw_a w) f H)) (fun p k hp => gf_Sne hp k), ex⟩
        unfold f_X7_drizzle
        rw [t1, nb_bnd, if_neg nb_10, u1, nb_bnd, if_neg nb_10, v1, nb_bnd, if_neg nb_10, gf_spread hT hf (by omega), nb_bnd, nb_let, nb_grd (nb_i5 ht), nb_t5 ht, nb_m1, if_pos (by omega)]
        have e3 : gf_D (sg_e1 6 σ) (gf_g (gw_a w) f H) (8 - 6) t = nb (gf_g (gw_a w) f H t) := gf_Sat ht
        rw [e3]
      · unfold f_X7_drizzle f_X8_drizzle
        rw [t1, nb_bnd, if_neg nb_10, u1, nb_bnd, if_neg nb_10, v1, nb_bnd, if_pos rfl, t2, nb_bnd, if_neg nb_10, u2, nb_bnd, if_neg nb_10, v2, nb_bnd, if_pos rfl]
        exact ⟨_, σ, τ, rfl, rfl, gx_f1r σ, gx_f2r τ⟩
    · unfold f_X7_drizzle f_X8_drizzle
      rw [t1, nb_bnd, if_neg nb_10, u1, nb_bnd, if_pos rfl, t2, nb_bnd, if_neg nb_10, u2, nb_bnd, if_pos rfl]
      exact ⟨_, σ, τ, rfl, rfl, gx_f1r σ, gx_f2r τ⟩
  · unfold f_X7_drizzle f_X8_drizzle
    rw [t1, nb_bnd, if_pos rfl, t2, nb_bnd, if_pos rfl]
    exact ⟨_, σ, τ, rfl, rfl, gx_f1r σ, gx_f2r τ⟩
theorem gz_drizzleAgain {m : Nat} {σ τ : sg_S} (h : gx_A m σ τ) (x y z : Int32) : ∃ r τ2, f_X7_drizzleAgain x y z σ = some r ∧ f_X8_drizzleAgain x y z τ = some (r, τ2) ∧ gx_f2 τ τ2 := by
  obtain ⟨⟨w, hR, hV, hI⟩, hW, h6, hH, hS, hf⟩ := h
  obtain ⟨j1, j2, j3, j4, j5, j6, j7⟩ := id hI.2
  have hT := gt_T hR j4
  unfold f_X8_drizzleAgain
  rcases nb_town x with ⟨f, hf, e, t1, t2⟩ | ⟨t1, t2⟩
  · subst e
    rcases nb_town z with ⟨t, ht, e, u1, u2⟩ | ⟨u1, u2⟩
    · subst e
      rcases nb_hours y with ⟨H, hH1, hH2, e, v1, v2⟩ | ⟨v1, v2⟩
      · subst e
        obtain ⟨τ2, e2, ex⟩ := gz_driz2 hV j4 hf ht (by omega) v2
        unfold f_X7_drizzleAgain
        rw [e2, nb_bnd2, t1, nb_bnd, if_neg nb_10, u1, nb_bnd, if_neg nb_10, v1, nb_bnd, if_neg nb_10, gf_halved hT hf ht (by omega), nb_bnd]
        exact ⟨_, τ2, rfl, rfl, ex⟩
      · unfold f_X7_drizzleAgain f_X8_drizzle
        rw [t1, nb_bnd, if_neg nb_10, u1, nb_bnd, if_neg nb_10, v1, nb_bnd, if_pos rfl, t2, nb_bnd, if_neg nb_10, u2, nb_bnd, if_neg nb_10, v2, nb_bnd, if_pos rfl, nb_bnd2]
        exact ⟨_, τ, rfl, rfl, gx_f2r τ⟩
    · unfold f_X7_drizzleAgain f_X8_drizzle
      rw [t1, nb_bnd, if_neg nb_10, u1, nb_bnd, if_pos rfl, t2, nb_bnd, if_neg nb_10, u2, nb_bnd, if_pos rfl, nb_bnd2]
      exact ⟨_, τ, rfl, rfl, gx_f2r τ⟩
  · unfold f_X7_drizzleAgain f_X8_drizzle
    rw [t1, nb_bnd, if_pos rfl, t2, nb_bnd, if_pos rfl, nb_bnd2]
    exact ⟨_, τ, rfl, rfl, gx_f2r τ⟩
theorem gz_ranked {m : Nat} {σ τ : sg_S} (h : gx_A m σ τ) (x : Int32) : ∃ r, f_X7_ranked x σ = some r ∧ f_X8_ranked x τ = some r := by
  obtain ⟨⟨w, hR, hV, hI⟩, hW, h6, hH, hS, hf⟩ := h
  obtain ⟨j1, j2, j3, j4, j5, j6, j7⟩ := id hI.2
  have hb : go_Rb w := fun t ht => by
    obtain ⟨b1, b2, b3, b4⟩ := j3 t ht
    exact ⟨by omega, by omega⟩
  exact ⟨_, go_ranked (fun t ht => ⟨nb_g1 hR.1 ht, nb_g4 hR.1 ht⟩) hb x, go_vranked hV hb x⟩
theorem gz_next {m : Nat} {σ τ : sg_S} (h : gx_A m σ τ) (x : Int32) : ∃ r, f_X7_next x σ = some r ∧ f_X8_next x τ = some r := by
  obtain ⟨⟨w, hR, hV, hI⟩, hW, h6, hH, hS, hf⟩ := h
  have hK := gz_K hI.2
  exact ⟨_, go_next hR.2 hK x, go_vnext hV hK x⟩
