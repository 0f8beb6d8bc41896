/-! COMMANDS: each of the eight, in the class and in the reference. Buy -/
theorem gq_buy1 {w : Nat → Nat} {σ : sg_S} {t : Nat} (hR : nb_R (sg_e1 1 σ) w) (h8 : w 1 ≤ 8) (ht : t < 5) (hu : w (12 + 4 * t) < 9) (hs : 4 ≤ w (10 + 4 * t)) (h60 : w (10 + 4 * t) ≤ 60) : wk_K (f_X7_sell (nb t) σ) (gq_S1 (gw_p (gw_p (gw_m w (10 + 4 * t) 4) (12 + 4 * t) 1) 9 1) σ (w (12 + 4 * t) + 1)) := by
  have s4 : σ 4 t = nb (w (12 + 4 * t)) := nb_g3 hR.1 ht
  have s2 : σ 2 t = nb (w (10 + 4 * t)) := nb_g1 hR.1 ht
  unfold f_X7_sell
  refine wk_bnd (nb_townE ht).1 ?_
  refine wk_f nb_10 ?_
  refine wk_grd (nb_i5 ht) ?_
  rw [nb_t5 ht]
  refine wk_f (by rw [s4]; exact nb_le_f (a := 9) hu (by decide)) ?_
  refine wk_f (by rw [s2]; exact nb_lt_f (b := 4) hs (by omega)) ?_
  refine wk_let (fun σ4 e4 => ?_)
  have R4 : nb_R (sg_e1 1 σ4) (gw_m w (10 + 4 * t) 4) := by
    rw [e4]
    exact gq_Rm hR h8 (d := 4) (p := 1) rfl (by unfold nb_lk; omega) hs
  have P4 : gq_P σ σ4 := by
    rw [e4]
    exact gq_Pup (gq_Prf σ) (by decide)
  have o4 : gw_m w (10 + 4 * t) 4 1 ≤ 8 := by
    rw [gw_mne _ _ (by omega)]
    exact h8
  refine wk_let (fun σ5 e5 => ?_)
  have R5 : nb_R (sg_e1 1 σ5) (gw_p (gw_m w (10 + 4 * t) 4) 9 1) := by
    rw [e5]
    exact gq_Rb R4 o4
  have P5 : gq_P σ σ5 := by
    rw [e5]
    exact gq_Pup P4 (by decide)
  have o5 : gw_p (gw_m w (10 + 4 * t) 4) 9 1 1 ≤ 8 := by
    rw [gw_pne _ _ (by omega)]
    exact o4
  refine wk_let (fun σ6 e6 => ?_)
  have R6 : nb_R (sg_e1 1 σ6) (gw_p (gw_p (gw_m w (10 + 4 * t) 4) (12 + 4 * t) 1) 9 1) := by
    rw [e6, gw_ppc _ (by omega)]
    exact gq_Rp R5 o5 1 (p := 3) rfl (by unfold nb_lk; omega)
  have P6 : gq_P σ σ6 := by
    rw [e6]
    exact gq_Pup P5 (by decide)
  refine wk_r ⟨?_, R6, P6⟩
  show σ6 4 t = _
  rw [gq_rd R6 (p := 3) (j := 12 + 4 * t) rfl (by unfold nb_lk; omega), gw_pne _ _ (by omega), gw_pat, gw_mne _ _ (by omega)]
theorem gq_buy2 {w : Nat → Nat} {τ : sg_S} {t : Nat} (hV : nb_V (τ 1) w) (ht : t < 5) (hu : w (12 + 4 * t) < 9) (hs : 4 ≤ w (10 + 4 * t)) (h60 : w (10 + 4 * t) ≤ 60) : wk_K (f_X8_buys (nb t) τ) (gq_S2 (gw_p (gw_p (gw_m w (10 + 4 * t) 4) (12 + 4 * t) 1) 9 1) τ (w (12 + 4 * t) + 1)) := by
  unfold f_X8_buys
  refine wk_bnd (nb_townE ht).2 ?_
  refine wk_f nb_10 ?_
  refine wk_bnd (nb_at2 t) ?_
  refine wk_grd (nb_i79 (by omega)) ?_
  rw [nb_t79 (by omega)]
  refine wk_f (by rw [hV _ (by omega)]; exact nb_ne (b := 9) (by omega) (by omega) (by decide)) ?_
  refine wk_bnd (nb_at0 t) ?_
  refine wk_grd (nb_i79 (by omega)) ?_
  rw [nb_t79 (by omega)]
  refine wk_f (by rw [hV _ (by omega)]; exact nb_lt_f (b := 4) hs (by omega)) ?_
  refine wk_bnd (nb_at0 t) ?_
  refine wk_grd (nb_i79 (by omega)) ?_
  rw [nb_t79 (by omega)]
  refine wk_let (fun σ4 e4 => ?_)
  have V4 : nb_V (σ4 1) (gw_m w (10 + 4 * t) 4) := by
    rw [e4]
    exact nb_Vm hV (d := 4) (by omega) hs
  have F4 : nb_F0 τ σ4 := by
    rw [e4]
    exact nb_F0u _ _ _
  refine wk_bnd (nb_at2 t) ?_
  refine wk_grd (nb_i79 (by omega)) ?_
  rw [nb_t79 (by omega)]
  refine wk_let (fun σ5 e5 => ?_)
  have V5 : nb_V (σ5 1) (gw_p (gw_m w (10 + 4 * t) 4) (12 + 4 * t) 1) := by
    rw [e5]
    exact nb_Vp V4 (by omega) 1
  have F5 : nb_F0 τ σ5 := by
    rw [e5]
    exact nb_F0tr F4 (nb_F0u _ _ _)
  refine wk_let (fun σ6 e6 => ?_)
  have V6 : nb_V (σ6 1) (gw_p (gw_p (gw_m w (10 + 4 * t) 4) (12 + 4 * t) 1) 9 1) := by
    rw [e6]
    exact nb_Vp V5 (by decide) 1
  have F6 : nb_F0 τ σ6 := by
    rw [e6]
    exact nb_F0tr F5 (nb_F0u _ _ _)
  refine wk_bnd (nb_at2 t) ?_
  refine wk_grd (nb_i79 (by omega)) ?_
  rw [nb_t79 (by omega)]
  refine wk_r ⟨?_, V6, nb_Fw F6⟩
  show σ6 1 (12 + 4 * t) = _
  rw [V6 _ (by omega), gw_pne _ _ (by omega), gw_pat, gw_mne _ _ (by omega)]
theorem ge_buy {m : Nat} {w : Nat → Nat} {t : Nat} (h : ge_E m w) (ht : t < 5) (h4 : 4 ≤ w (10 + 4 * t)) : ge_E (m + 1) (gw_p (gw_p (gw_m w (10 + 4 * t) 4) (12 + 4 * t) 1) 9 1) := by
  obtain ⟨a, b, c, d1, d2, d3, d4, d5, d6⟩ := h
  have oth : ∀ x, x < 9 → gw_p (gw_p (gw_m w (10 + 4 * t) 4) (12 + 4 * t) 1) 9 1 x = w x := fun x hx => by rw [gw_pne _ _ (by omega), gw_pne _ _ (by omega), gw_mne _ _ (by omega)]
  have e9 : gw_p (gw_p (gw_m w (10 + 4 * t) 4) (12 + 4 * t) 1) 9 1 9 = w 9 + 1 := by rw [gw_pat, gw_pne _ _ (by omega), gw_mne _ _ (by omega)]
  have hs := ge_su (w := w) (w2 := gw_p (gw_p (gw_m w (10 + 4 * t) 4) (12 + 4 * t) 1) 9 1) ht (v := w (10 + 4 * t) - 4) (fun q hq => by
    rw [gw_pne _ _ (by omega), gw_pne _ _ (by omega)]
    unfold gw_m
    by_cases d : q = t
    · subst d
      rw [if_pos rfl, if_pos rfl]
    · rw [if_neg (by omega), if_neg d])
  have hl := ge_le (w := w) ht
  have k1 := oth 1 (by decide)
  have k2 := oth 2 (by decide)
  have k3 := oth 3 (by decide)
  have k4 := oth 4 (by decide)
  have k5 := oth 5 (by decide)
  have k6 := oth 6 (by decide)
  have k7 := oth 7 (by decide)
  have k8 := oth 8 (by decide)
  exact ⟨by omega, by omega, by omega, by omega, by omega, by omega, by omega, by omega, by omega⟩
theorem gq_buy {m : Nat} {w : Nat → Nat} {σ τ : sg_S} (h : gq_H m w σ τ) (x : Int32) : gq_A m w σ τ (f_X7_sell x σ) (f_X8_buys x τ) := by
  have h0 := h
  obtain ⟨hR, hV, hI, hW, hz, hm, h6⟩ := h
  rcases nb_town x with ⟨t, ht, e, t1, t2⟩ | ⟨t1, t2⟩
  · subst e
    obtain ⟨j1, j2, j3, j4, j5, j6, j7⟩ := hI.2
    obtain ⟨b1, b2, b3, b4⟩ := j3 t ht
    have s4 : σ 4 t = nb (w (12 + 4 * t)) := nb_g3 hR.1 ht
    have s2 : σ 2 t = nb (w (10 + 4 * t)) := nb_g1 hR.1 ht
    by_cases c : w (12 + 4 * t) = 9
    · refine gq_Ae ?_ ?_ (gq_ref h0 1 9 (by decide))
      · unfold f_X7_sell
        rw [t1, nb_bnd, if_neg nb_10, nb_grd (nb_i5 ht), nb_t5 ht, s4, c, if_pos (by decide)]
        try rfl
      · unfold f_X8_buys
        rw [t2, nb_bnd, if_neg nb_10, nb_at2, nb_bnd, nb_grd (nb_i79 (by omega)), nb_t79 (by omega), hV (12 + 4 * t) (by omega), c, if_pos (by decide)]
        try rfl
    · by_cases c2 : w (10 + 4 * t) < 4
      · refine gq_Ae ?_ ?_ (gq_ref h0 4 (nb (w (10 + 4 * t))) (by decide))
        · unfold f_X7_sell
          rw [t1, nb_bnd, if_neg nb_10, nb_grd (nb_i5 ht), nb_t5 ht, s4, if_neg (show ¬ (9 : Int32) ≤ nb (w (12 + 4 * t)) from nb_le_f (a := 9) (by omega) (by decide)), s2, if_pos (show nb (w (10 + 4 * t)) < (4 : Int32) from nb_lt_t (b := 4) c2 (by decide))]
          try rfl
        · unfold f_X8_buys
          rw [t2, nb_bnd, if_neg nb_10, nb_at2, nb_bnd, nb_grd (nb_i79 (by omega)), nb_t79 (by omega), hV (12 + 4 * t) (by omega), if_neg (show ¬ nb (w (12 + 4 * t)) = 9 from nb_ne (b := 9) c (by omega) (by decide)), nb_at0, nb_bnd, nb_grd (nb_i79 (by omega)), nb_t79 (by omega), hV (10 + 4 * t) (by omega), if_pos (show nb (w (10 + 4 * t)) < (4 : Int32) from nb_lt_t (b := 4) c2 (by decide)), nb_bnd, nb_grd (nb_i79 (by omega)), nb_t79 (by omega), hV (10 + 4 * t) (by omega)]
          try rfl
      · refine gq_fin h0 (n := w (12 + 4 * t) + 1) (by omega) (gq_buy1 hR j1 ht (by omega) (by omega) b1) (gq_buy2 hV ht (by omega) (by omega) b1) ⟨?_, ?_⟩
        · refine ⟨?_, ge_buy hI.1.2 ht (by omega)⟩
          rw [gw_pne _ _ (by omega), gw_pne _ _ (by omega), gw_mne _ _ (by omega)]
          have := hI.1.1
          omega
        · rw [gw_pne _ _ (by omega), gw_pne _ _ (by omega), gw_mne _ _ (by omega)]
          refine gn_J hI.2 (fun q hq => ?_) (fun x hx => ?_)
          · obtain ⟨c1, c2, c3, c4⟩ := j3 q hq
            refine ⟨?_, ?_, ?_, ?_⟩
            · rw [gw_pne _ _ (by omega), gw_pne _ _ (by omega)]
              unfold gw_m
              split <;> omega
            · rw [gw_pne _ _ (by omega), gw_pne _ _ (by omega), gw_mne _ _ (by omega)]
              exact c2
            · rw [gw_pne _ _ (by omega)]
              unfold gw_p
              by_cases d : 12 + 4 * q = 12 + 4 * t
              · rw [if_pos d, gw_mne _ _ (by omega)]
                have : q = t := by omega
                subst this
                omega
              · rw [if_neg d, gw_mne _ _ (by omega)]
                exact c3
            · rw [gw_pne _ _ (by omega), gw_pne _ _ (by omega), gw_mne _ _ (by omega)]
              omega
          · rw [gw_pne _ _ (by omega), gw_pne _ _ (by omega), gw_mne _ _ (by omega)]
  · refine gq_Ae ?_ ?_ (gq_bad h0 (r := -1) (Or.inl rfl))
    · unfold f_X7_sell
      rw [t1, nb_bnd, if_pos rfl]
    · unfold f_X8_buys
      rw [t2, nb_bnd, if_pos rfl]
