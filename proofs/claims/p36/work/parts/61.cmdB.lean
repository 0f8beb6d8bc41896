/-! Rain -/
theorem gq_sle (g : Nat → Nat) (H : Nat) (hg : ∀ q, g q ≤ H) : ∀ n, gr_s g n ≤ n * H := by
  intro n
  induction n with
  | zero =>
    rw [gr_s]
    omega
  | succ n ih =>
    rw [gr_s, Nat.succ_mul]
    have := hg n
    omega
theorem gq_rainJ {w g : Nat → Nat} {k : Nat} (h : gs_J w k) : gs_J (gw_rain w g 5) k := by
  have hj := h
  obtain ⟨j1, j2, j3, j4, j5, j6, j7⟩ := hj
  refine gn_J h (fun q hq => ?_) (fun x hx => gw_rain_ne (fun j hj => by omega))
  obtain ⟨c1, c2, c3, c4⟩ := j3 q hq
  refine ⟨?_, ?_, ?_, ?_⟩
  · rw [gw_rain_ne (fun j hj => by omega)]
    exact c1
  · rw [gw_rain_at hq]
    exact gw_c60 _ _
  · rw [gw_rain_ne (fun j hj => by omega)]
    exact c3
  · rw [gw_rain_ne (fun j hj => by omega)]
    exact Nat.le_refl _
theorem gq_Rm1 {σ ρ2 : sg_S} {w : Nat → Nat} (h : nb_R ρ2 w) (h8 : w 1 ≤ 8) : nb_R (sg_e1 1 (sg_m1 1 13 σ ρ2)) w := by
  refine nb_Rx h h8 (fun _ _ => rfl) (fun p k h1 _ _ => ?_)
  show ρ2 p k = sg_m1 1 13 σ ρ2 (1 + p) k
  rw [nb_m1, if_pos (by omega), (by omega : 1 + p - 1 = p)]
theorem gq_rain {m : Nat} {w : Nat → Nat} {σ τ : sg_S} (h : gq_H m w σ τ) (x y : Int32) : gq_A m w σ τ (f_X7_pour x y σ) (f_X8_letsRain x y τ) := by
  have h0 := h
  obtain ⟨hR, hV, hI, hW, hz, hm, h6⟩ := h
  rcases nb_town x with ⟨t, ht, e, t1, t2⟩ | ⟨t1, t2⟩
  · subst e
    rcases nb_hours y with ⟨H, hH1, hH2, e, u1, u2⟩ | ⟨u1, u2⟩
    · subst e
      obtain ⟨j1, j2, j3, j4, j5, j6, j7⟩ := hI.2
      have hb : gr_b w := fun q hq => by
        obtain ⟨c1, c2, c3, c4⟩ := j3 q hq
        omega
      obtain ⟨ρ2, a1, a2, a3⟩ := gr_class hR.1 j4 hb ht (H := H) (by omega)
      obtain ⟨τ2, b1, b2, b3⟩ := gr_ref hV j4 hb ht (H := H) (by omega)
      have r0 : gw_rain w (gf_g (gw_a w) t H) 5 0 = w 0 := gw_rain_ne (fun j hj => by omega)
      have r1 : gw_rain w (gf_g (gw_a w) t H) 5 1 = w 1 := gw_rain_ne (fun j hj => by omega)
      have rl := gq_sle (gf_g (gw_a w) t H) H (fun q => gf_gle _ _ _ _) 5
      have rl2 : gr_s (gf_g (gw_a w) t H) 5 < 100000 := by omega
      refine gq_fin (w2 := gw_rain w (gf_g (gw_a w) t H) 5) (n := gr_s (gf_g (gw_a w) t H) 5) h0 rl2 ?_ ?_ ⟨⟨by rw [r0]; exact Nat.le_succ_of_le hI.1.1, ge_same hI.1.2 (Nat.le_succ m) (fun x _ _ => gw_rain_ne (fun j _ => by omega)) (fun q _ => gw_rain_ne (fun j _ => by omega))⟩, by rw [r1]; exact gq_rainJ hI.2⟩
      · unfold f_X7_pour
        refine wk_bnd t1 (wk_f nb_10 (wk_bnd u1 (wk_f nb_10 (wk_bnd2 a1 (wk_lets (wk_r ⟨rfl, ?_, gq_Pm1 (gq_Prf σ) (by decide)⟩))))))
        exact gq_Rm1 (gn_R hR a2 a3 j1 r1 (fun x hx => gw_rain_ne (fun j hj => by omega))) (by rw [r1]; exact j1)
      · unfold f_X8_letsRain
        exact wk_bnd t2 (wk_f nb_10 (wk_bnd u2 (wk_f nb_10 (wk_bnd2 b1 (wk_r ⟨rfl, b2, nb_Fw b3⟩)))))
    · refine gq_Ae ?_ ?_ (gq_bad h0 (r := -2) (Or.inr rfl))
      · unfold f_X7_pour
        rw [t1, nb_bnd, if_neg nb_10, u1, nb_bnd, if_pos rfl]
      · unfold f_X8_letsRain
        rw [t2, nb_bnd, if_neg nb_10, u2, nb_bnd, if_pos rfl]
  · refine gq_Ae ?_ ?_ (gq_bad h0 (r := -1) (Or.inl rfl))
    · unfold f_X7_pour
      rw [t1, nb_bnd, if_pos rfl]
    · unfold f_X8_letsRain
      rw [t2, nb_bnd, if_pos rfl]
/-! Months -/
theorem gq_month {m : Nat} {w : Nat → Nat} {σ τ : sg_S} (h : gq_H m w σ τ) : gq_A m w σ τ (sg_bnd2 (f_X3_pass (sg_e1 1 σ)) (fun r τ1 => sg_let (sg_m1 1 13 σ τ1) (fun σ1 => some (r, σ1)))) (f_X8_months τ) := by
  have h0 := h
  obtain ⟨hR, hV, hI, hW, hz, hm, h6⟩ := h
  obtain ⟨r, ρ2, τ2, w2, a1, a2, a3, a4, a5, a6, a7, a8⟩ := gn_pass hR hV hI hm h6
  refine gq_fin (w2 := w2) (n := r) h0 (by omega) ?_ ?_ a5
  · exact wk_bnd2 a1 (wk_lets (wk_r ⟨rfl, gq_Rm1 a3 a5.2.1, gq_Pm1 (gq_Prf σ) (by decide)⟩))
  · exact ⟨_, a2, rfl, a4, a6⟩
/-! Bail -/
theorem gq_max {a b : Nat} (ha : a < 1000000) (hb : b < 1000000) : (if (0 : Int32) < nb a - nb b then nb a - nb b else 0) = nb (a - b) := by
  by_cases c : b < a
  · rw [nb_sub (by omega), if_pos (nb_pos (by omega) (by omega))]
  · have e : ¬ (0 : Int32) < nb a - nb b := Int32.not_lt.mpr ((nb_sp (by omega) (by omega)).mpr (by omega))
    rw [if_neg e, (by omega : a - b = 0)]
    try rfl
theorem gq_bail1 {w : Nat → Nat} {σ : sg_S} {t n : Nat} (hR : nb_R (sg_e1 1 σ) w) (h8 : w 1 ≤ 8) (ht : t < 5) (hn1 : 1 ≤ n) (hn : n ≤ 9) (ha : w (13 + 4 * t) ≠ 0) (ha2 : w (13 + 4 * t) ≤ 160) (hu : n ≤ w (12 + 4 * t)) (hu2 : w (12 + 4 * t) ≤ 9) : wk_K (f_X7_pledge (nb t) (nb n) σ) (gq_S1 (gw_u (gw_m w (12 + 4 * t) n) (13 + 4 * t) (w (13 + 4 * t) - 3 * n)) σ (w (13 + 4 * t) - 3 * n)) := by
  have s4 : σ 4 t = nb (w (12 + 4 * t)) := nb_g3 hR.1 ht
  have s5 : σ 5 t = nb (w (13 + 4 * t)) := nb_g4 hR.1 ht
  unfold f_X7_pledge
  refine wk_bnd (nb_townE ht).1 (wk_f nb_10 (wk_t (nb_le_t (a := 1) hn1 (by omega)) (wk_f (nb_lt_f (a := 9) (b := n) hn (by decide)) (wk_grd (nb_i5 ht) ?_))))
  rw [nb_t5 ht]
  refine wk_f (by rw [s5]; exact nb_ne (b := 0) ha (by omega) (by decide)) (wk_f (by rw [s4]; exact nb_lt_f hu (by omega)) ?_)
  refine wk_let (fun σ4 e4 => ?_)
  have R4 : nb_R (sg_e1 1 σ4) (gw_m w (12 + 4 * t) n) := by
    rw [e4]
    exact gq_Rm hR h8 (p := 3) rfl (by unfold nb_lk; omega) hu
  have P4 : gq_P σ σ4 := by
    rw [e4]
    exact gq_Pup (gq_Prf σ) (by decide)
  have o4 : gw_m w (12 + 4 * t) n 1 ≤ 8 := by
    rw [gw_mne _ _ (by omega)]
    exact h8
  refine wk_let (fun σ5 e5 => ?_)
  have e5b : σ5 = sg_up σ4 5 t (nb (w (13 + 4 * t) - 3 * n)) := by
    rw [e5, gq_rd R4 (p := 4) (j := 13 + 4 * t) rfl (by unfold nb_lk; omega), gw_mne _ _ (by omega)]
    have q : (3 : Int32) * nb n = nb (3 * n) := nb_mul 3 n
    rw [q, gq_max (by omega) (by omega)]
  have R5 : nb_R (sg_e1 1 σ5) (gw_u (gw_m w (12 + 4 * t) n) (13 + 4 * t) (w (13 + 4 * t) - 3 * n)) := by
    rw [e5b]
    exact gq_Ru R4 o4 (p := 4) rfl (by unfold nb_lk; omega) _
  refine wk_r ⟨?_, R5, by rw [e5b]; exact gq_Pup P4 (by decide)⟩
  show σ5 5 t = _
  rw [e5b, nb_upE]
theorem gq_bail2 {w : Nat → Nat} {τ : sg_S} {t n : Nat} (hV : nb_V (τ 1) w) (ht : t < 5) (hn1 : 1 ≤ n) (hn : n ≤ 9) (ha : w (13 + 4 * t) ≠ 0) (ha2 : w (13 + 4 * t) ≤ 160) (hu : n ≤ w (12 + 4 * t)) (hu2 : w (12 + 4 * t) ≤ 9) (y : f_X8_isIn (nb n) 1 9 = some 1) : wk_K (f_X8_bails (nb t) (nb n) τ) (gq_S2 (gw_u (gw_m w (12 + 4 * t) n) (13 + 4 * t) (w (13 + 4 * t) - 3 * n)) τ (w (13 + 4 * t) - 3 * n)) := by
  unfold f_X8_bails
  refine wk_bnd (nb_townE ht).2 (wk_f nb_10 (wk_bnd y (wk_f nb_10 (wk_bnd (nb_at2 t) (wk_grd (nb_i79 (by omega)) ?_)))))
  rw [nb_t79 (by omega), hV _ (by omega)]
  refine wk_lets (wk_bnd (nb_at3 t) (wk_grd (nb_i79 (by omega)) ?_))
  rw [nb_t79 (by omega), hV _ (by omega)]
  refine wk_lets (wk_f (nb_ne (b := 0) ha (by omega) (by decide)) (wk_f (nb_lt_f hu (by omega)) (wk_bnd (nb_at2 t) (wk_grd (nb_i79 (by omega)) ?_))))
  rw [nb_t79 (by omega)]
  refine wk_let (fun σ4 e4 => ?_)
  have V4 : nb_V (σ4 1) (gw_m w (12 + 4 * t) n) := by
    rw [e4]
    exact nb_Vm hV (by omega) hu
  have F4 : nb_F0 τ σ4 := by
    rw [e4]
    exact nb_F0u _ _ _
  have q : (3 : Int32) * nb n = nb (3 * n) := nb_mul 3 n
  refine wk_bnd (nb_at3 t) ?_
  have J : ∀ z, z = nb (w (13 + 4 * t) - 3 * n) → wk_K (f_X8_bails_J119 (nb t) (nb n) z (nb (13 + 4 * t)) σ4) (gq_S2 (gw_u (gw_m w (12 + 4 * t) n) (13 + 4 * t) (w (13 + 4 * t) - 3 * n)) τ (w (13 + 4 * t) - 3 * n)) := by
    intro z ez
    unfold f_X8_bails_J119
    rw [ez]
    refine wk_grd (nb_i79 (by omega)) ?_
    rw [nb_t79 (by omega)]
    refine wk_let (fun σ5 e5 => ?_)
    have V5 : nb_V (σ5 1) (gw_u (gw_m w (12 + 4 * t) n) (13 + 4 * t) (w (13 + 4 * t) - 3 * n)) := by
      rw [e5]
      exact nb_Vu V4 _ _
    refine wk_bnd (nb_at3 t) (wk_grd (nb_i79 (by omega)) ?_)
    rw [nb_t79 (by omega)]
    refine wk_r ⟨?_, V5, nb_Fw (nb_F0tr F4 (by rw [e5]; exact nb_F0u _ _ _))⟩
    show σ5 1 (13 + 4 * t) = _
    rw [V5 _ (by omega), gw_at]
  rw [q]
  by_cases c : 3 * n < w (13 + 4 * t)
  · refine wk_t (nb_lt_t c (by omega)) (J _ ?_)
    rw [nb_sub (by omega)]
  · refine wk_f (nb_lt_f (by omega) (by omega)) (J _ ?_)
    rw [(by omega : w (13 + 4 * t) - 3 * n = 0)]
    try rfl
theorem gq_bail {m : Nat} {w : Nat → Nat} {σ τ : sg_S} (h : gq_H m w σ τ) (x y : Int32) : gq_A m w σ τ (f_X7_pledge x y σ) (f_X8_bails x y τ) := by
  have h0 := h
  obtain ⟨hR, hV, hI, hW, hz, hm, h6⟩ := h
  rcases nb_town x with ⟨t, ht, e, t1, t2⟩ | ⟨t1, t2⟩
  · subst e
    rcases nb_isIn y 1 9 (by decide) (by decide) with ⟨n, hn1, hn9, e, u2⟩ | ⟨u1, u2⟩
    · subst e
      obtain ⟨j1, j2, j3, j4, j5, j6, j7⟩ := hI.2
      obtain ⟨b1, b2, b3, b4⟩ := j3 t ht
      have s4 : σ 4 t = nb (w (12 + 4 * t)) := nb_g3 hR.1 ht
      have s5 : σ 5 t = nb (w (13 + 4 * t)) := nb_g4 hR.1 ht
      have i1 : (1 : Int32) ≤ nb n := nb_le_t (a := 1) hn1 (by omega)
      have i2 : ¬ (9 : Int32) < nb n := nb_lt_f (a := 9) (b := n) hn9 (by decide)
      have u3 : f_X8_isIn (nb n) 1 9 = some 1 := u2
      by_cases c : w (13 + 4 * t) = 0
      · refine gq_Ae ?_ ?_ (gq_ref h0 5 (nb (w (12 + 4 * t))) (by decide))
        · unfold f_X7_pledge
          rw [t1, nb_bnd, if_neg nb_10, if_pos i1, if_neg i2, nb_grd (nb_i5 ht), nb_t5 ht, s5, c, if_pos (by decide), s4]
          try rfl
        · unfold f_X8_bails
          rw [t2, nb_bnd, if_neg nb_10, u3, nb_bnd, if_neg nb_10, nb_at2, nb_bnd, nb_grd (nb_i79 (by omega)), nb_t79 (by omega), hV (12 + 4 * t) (by omega), nb_let, nb_at3, nb_bnd, nb_grd (nb_i79 (by omega)), nb_t79 (by omega), hV (13 + 4 * t) (by omega), nb_let, c, if_pos (by decide)]
          try rfl
      · by_cases c2 : w (12 + 4 * t) < n
        · refine gq_Ae ?_ ?_ (gq_ref h0 6 (nb (w (12 + 4 * t))) (by decide))
          · unfold f_X7_pledge
            rw [t1, nb_bnd, if_neg nb_10, if_pos i1, if_neg i2, nb_grd (nb_i5 ht), nb_t5 ht, s5, if_neg (show ¬ nb (w (13 + 4 * t)) = 0 from nb_ne (b := 0) c (by omega) (by decide)), s4, if_pos (nb_lt_t c2 (by omega))]
            try rfl
          · unfold f_X8_bails
            rw [t2, nb_bnd, if_neg nb_10, u3, nb_bnd, if_neg nb_10, nb_at2, nb_bnd, nb_grd (nb_i79 (by omega)), nb_t79 (by omega), hV (12 + 4 * t) (by omega), nb_let, nb_at3, nb_bnd, nb_grd (nb_i79 (by omega)), nb_t79 (by omega), hV (13 + 4 * t) (by omega), nb_let, if_neg (show ¬ nb (w (13 + 4 * t)) = 0 from nb_ne (b := 0) c (by omega) (by decide)), if_pos (nb_lt_t c2 (by omega))]
            try rfl
        · have d0 : ∀ x, x ≠ 12 + 4 * t → x ≠ 13 + 4 * t → gw_u (gw_m w (12 + 4 * t) n) (13 + 4 * t) (w (13 + 4 * t) - 3 * n) x = w x := fun x h1 h2 => by rw [gw_ne _ _ h2, gw_mne _ _ h1]
          refine gq_fin h0 (n := w (13 + 4 * t) - 3 * n) (by omega) (gq_bail1 hR j1 ht hn1 hn9 c (by omega) (by omega) b3) (gq_bail2 hV ht hn1 hn9 c (by omega) (by omega) b3 u3) ⟨?_, ?_⟩
          · refine ⟨?_, ge_same hI.1.2 (Nat.le_succ m) (fun x _ _ => d0 x (by omega) (by omega)) (fun q _ => d0 _ (by omega) (by omega))⟩
            rw [d0 0 (by omega) (by omega)]
            exact Nat.le_succ_of_le hI.1.1
          · rw [d0 1 (by omega) (by omega)]
            refine gn_J hI.2 (fun q hq => ?_) (fun x hx => d0 x (by omega) (by omega))
            obtain ⟨c1, c2, c3, c4⟩ := j3 q hq
            refine ⟨?_, ?_, ?_, ?_⟩
            · rw [d0 _ (by omega) (by omega)]
              exact c1
            · rw [d0 _ (by omega) (by omega)]
              exact c2
            · rw [gw_ne _ _ (by omega)]
              unfold gw_m
              split <;> omega
            · by_cases d : q = t
              · subst d
                rw [gw_at]
                omega
              · rw [d0 _ (by omega) (by omega)]
                exact Nat.le_refl _
    · refine gq_Ae ?_ ?_ (gq_bad h0 (r := -2) (Or.inr rfl))
      · unfold f_X7_pledge
        rw [t1, nb_bnd, if_neg nb_10]
        by_cases d : (1 : Int32) ≤ y
        · rw [if_pos d, if_pos (show (9 : Int32) < y from Int32.not_le.mp (fun d2 => u1 ⟨d, d2⟩))]
        · rw [if_neg d]
      · unfold f_X8_bails
        rw [t2, nb_bnd, if_neg nb_10, show f_X8_isIn y 1 9 = some 0 from u2, nb_bnd, if_pos rfl]
  · refine gq_Ae ?_ ?_ (gq_bad h0 (r := -1) (Or.inl rfl))
    · unfold f_X7_pledge
      rw [t1, nb_bnd, if_pos rfl]
    · unfold f_X8_bails
      rw [t2, nb_bnd, if_pos rfl]
