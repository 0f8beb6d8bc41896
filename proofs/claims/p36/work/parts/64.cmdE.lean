/-! Repay -/
theorem gy_loop {κ : sg_S} {n c : Nat} (hn : n ≤ 8) (hc : c < n) : ∀ (m j f : Nat) (κ1 : sg_S), j + m = n → m < f → c < j → κ1 0 0 = nb n → (∀ p i, 1 ≤ p → p ≤ 3 → i < n → κ1 p i = if i < c ∨ j ≤ i + 1 then κ p i else κ p (i + 1)) → ∃ κ2, f_X1_remove_L12 (nb c) f (nb j) κ1 = some κ2 ∧ κ2 0 0 = nb (n - 1) ∧ (∀ p i, 1 ≤ p → p ≤ 3 → i < n - 1 → κ2 p i = if i < c then κ p i else κ p (i + 1)) := by
  intro m
  induction m with
  | zero =>
    intro j f κ1 h1 h2 h3 h4 h5
    obtain ⟨f, rfl⟩ : ∃ k, f = k + 1 := ⟨f - 1, by omega⟩
    have ej : j = n := by omega
    have e1 : nb n - 1 = nb (n - 1) := nb_sub (b := 1) (by omega)
    rw [f_X1_remove_L12, h4, if_neg (nb_lt_f (by omega) (by omega)), e1, nb_let]
    refine ⟨_, rfl, nb_upE _ _ _ _, fun p i p1 p3 hi => ?_⟩
    rw [nb_up, if_neg (by omega), h5 p i p1 p3 (by omega)]
    by_cases d : i < c
    · rw [if_pos d, if_pos (Or.inl d)]
    · rw [if_neg d, if_neg (by omega)]
  | succ m ih =>
    intro j f κ1 h1 h2 h3 h4 h5
    obtain ⟨f, rfl⟩ : ∃ k, f = k + 1 := ⟨f - 1, by omega⟩
    have e1 : nb j - 1 = nb (j - 1) := nb_sub (b := 1) (by omega)
    obtain ⟨κ2, a1, a2, a3⟩ := gs_move (j := j) (k := j - 1) h4 hn (by omega) (by omega)
    rw [f_X1_remove_L12, h4, if_pos (nb_lt_t (by omega) (by omega)), e1, a1, nb_bnd, nb_succ]
    refine ih (j + 1) f κ2 (by omega) (by omega) (by omega) ((a2 0 0 (by omega)).trans h4) (fun p i p1 p3 hi => ?_)
    rw [a3 p i p1 p3]
    by_cases d : i = j - 1
    · rw [if_pos d, h5 p j p1 p3 (by omega), if_pos (by omega), if_neg (by omega), d, (by omega : j - 1 + 1 = j)]
    · rw [if_neg d, h5 p i p1 p3 hi]
      by_cases d2 : i < c ∨ j ≤ i + 1
      · rw [if_pos d2, if_pos (by omega)]
      · rw [if_neg d2, if_neg (by omega)]
theorem gy_remove {κ : sg_S} {n c : Nat} (hn : n ≤ 8) (hc : c < n) (h : κ 0 0 = nb n) : ∃ κ2, f_X1_remove (nb c) κ = some κ2 ∧ κ2 0 0 = nb (n - 1) ∧ (∀ p i, 1 ≤ p → p ≤ 3 → i < n - 1 → κ2 p i = if i < c then κ p i else κ p (i + 1)) := by
  obtain ⟨κ2, a, b⟩ := gy_loop (κ := κ) hn hc (n - (c + 1)) (c + 1) 1000 κ (by omega) (by omega) (by omega) h (fun p i p1 p3 hi => by
    by_cases d : i < c
    · rw [if_pos (Or.inl d)]
    · rw [if_pos (by omega)])
  refine ⟨κ2, ?_, b⟩
  unfold f_X1_remove
  rw [gs_there h hn hc, nb_bnd, if_neg nb_10, nb_succ, nb_let]
  exact a
def gy_p (w : Nat → Nat) (c : Nat) : Nat → Nat := gw_p (gw_m w (10 + 4 * w (55 + 3 * c)) (w (56 + 3 * c))) 3 (w (56 + 3 * c))
def gy_w (w : Nat → Nat) (c : Nat) : Nat → Nat := gm_go (gy_p w c) c
theorem gy_pne {w : Nat → Nat} {c x : Nat} (h3 : x ≠ 3) (h : x < 10 ∨ 30 ≤ x ∨ x ≠ 10 + 4 * w (55 + 3 * c)) (ht : w (55 + 3 * c) < 5) : gy_p w c x = w x := by
  unfold gy_p
  rw [gw_pne _ _ h3, gw_mne _ _ (by omega)]
theorem gy_J {w : Nat → Nat} {c : Nat} (h : gs_J w (w 1)) (hc : c < w 1) (hs : w (56 + 3 * c) ≤ w (10 + 4 * w (55 + 3 * c))) : gs_J (gy_w w c) (gy_w w c 1) := by
  obtain ⟨j1, j2, j3, j4, j5, j6, j7⟩ := h
  obtain ⟨k1, k2, k3, k4, k5⟩ := j6 c hc
  have z1 : gy_w w c 1 = w 1 - 1 := by
    unfold gy_w
    rw [gm_1, gy_pne (by omega) (by omega) k1]
  have zlo : ∀ x, x ≠ 1 → x < 55 + 3 * c → gy_w w c x = gy_p w c x := fun x h1 h2 => gm_lo h1 h2
  have z0 : gy_w w c 0 = w 0 := by rw [zlo 0 (by omega) (by omega), gy_pne (by omega) (by omega) k1]
  have zl : ∀ x, 30 ≤ x → x < 55 + 3 * c → gy_w w c x = w x := fun x h1 h2 => by rw [zlo x (by omega) h2, gy_pne (by omega) (by omega) k1]
  have zh : ∀ x, 55 + 3 * c ≤ x → x + 3 < 79 → gy_w w c x = w (x + 3) := fun x h1 h2 => by
    unfold gy_w
    rw [gm_hi h1 h2, gy_pne (by omega) (by omega) k1]
  have by_ : ∀ t, gc_by w t = gc_by (gy_w w c) t + (if w (55 + 3 * c) = t then w (56 + 3 * c) else 0) := fun t => gs_byrm hc j1 z1 (fun i hi => ⟨zl _ (by omega) (by omega), zl _ (by omega) (by omega)⟩) (fun i h1 h2 => by
    refine ⟨?_, ?_⟩
    · rw [zh (55 + 3 * i) (by omega) (by omega), (by omega : 55 + 3 * i + 3 = 55 + 3 * (i + 1))]
    · rw [zh (56 + 3 * i) (by omega) (by omega), (by omega : 56 + 3 * i + 3 = 56 + 3 * (i + 1))])
  refine ⟨by omega, by omega, fun t ht => ?_, fun a b ha hb => ?_, fun t ht => ?_, fun i hi => ?_, fun i hi => ?_⟩
  · obtain ⟨b1, b2, b3, b4⟩ := j3 t ht
    have q := by_ t
    have q2 : gc_by (gy_w w c) t ≤ gc_by w t := by omega
    rw [zlo (10 + 4 * t) (by omega) (by omega), zlo (11 + 4 * t) (by omega) (by omega), zlo (12 + 4 * t) (by omega) (by omega), zlo (13 + 4 * t) (by omega) (by omega), gy_pne (x := 11 + 4 * t) (by omega) (by omega) k1, gy_pne (x := 12 + 4 * t) (by omega) (by omega) k1, gy_pne (x := 13 + 4 * t) (by omega) (by omega) k1]
    refine ⟨?_, b2, b3, by omega⟩
    unfold gy_p
    rw [gw_pne _ _ (by omega)]
    unfold gw_m
    split <;> omega
  · rw [zl _ (by omega) (by omega), zl _ (by omega) (by omega)]
    exact j4 a b ha hb
  · rw [zl _ (by omega) (by omega)]
    exact j5 t ht
  · rw [z1] at hi
    rw [z0]
    by_cases d : i < c
    · rw [zl _ (by omega) (by omega), zl _ (by omega) (by omega), zl _ (by omega) (by omega)]
      exact j6 i (by omega)
    · rw [zh (55 + 3 * i) (by omega) (by omega), zh (56 + 3 * i) (by omega) (by omega), zh (57 + 3 * i) (by omega) (by omega)]
      have q := j6 (i + 1) (by omega)
      rw [(by omega : 55 + 3 * i + 3 = 55 + 3 * (i + 1)), (by omega : 56 + 3 * i + 3 = 56 + 3 * (i + 1)), (by omega : 57 + 3 * i + 3 = 57 + 3 * (i + 1))]
      exact q
  · rw [z1] at hi
    rw [z0]
    by_cases d : i < c
    · rw [zl _ (by omega) (by omega)]
      exact j7 i (by omega)
    · rw [zh (57 + 3 * i) (by omega) (by omega), (by omega : 57 + 3 * i + 3 = 57 + 3 * (i + 1))]
      exact j7 (i + 1) (by omega)
theorem gy_repay1 {w : Nat → Nat} {σ : sg_S} {c : Nat} (hR : nb_R (sg_e1 1 σ) w) (h8 : w 1 ≤ 8) (hc : c < w 1) (ht : w (55 + 3 * c) < 5) (hh : w (56 + 3 * c) ≤ 20) (hs : w (56 + 3 * c) ≤ w (10 + 4 * w (55 + 3 * c))) (h60 : w (10 + 4 * w (55 + 3 * c)) ≤ 60) : wk_K (f_X7_takeBack (nb c) σ) (gq_S1 (gy_w w c) σ (w (10 + 4 * w (55 + 3 * c)) - w (56 + 3 * c))) := by
  have s9 : (sg_e1 9 σ) 0 0 = nb (w 1) := nb_g8 hR
  obtain ⟨c1, c2, c3⟩ := hR.2.2 c hc
  have c1' : σ 10 c = nb (w (55 + 3 * c)) := c1
  have c2' : σ 11 c = nb (w (56 + 3 * c)) := c2
  have s2 : σ 2 (w (55 + 3 * c)) = nb (w (10 + 4 * w (55 + 3 * c))) := nb_g1 hR.1 ht
  unfold f_X7_takeBack
  refine wk_bnd (gs_there s9 h8 hc) (wk_f nb_10 (wk_grd (nb_i8 (by omega)) ?_))
  rw [nb_t8 (by omega), c1', c2']
  refine wk_lets (wk_lets (wk_bnd (nb_townE ht).1 (wk_f nb_10 (wk_grd (nb_i5 ht) ?_))))
  rw [nb_t5 ht, s2]
  refine wk_f (nb_lt_f hs (by omega)) ?_
  rw [← s2]
  refine wk_let (fun σ4 e4 => ?_)
  have R4 : nb_R (sg_e1 1 σ4) (gw_m w (10 + 4 * w (55 + 3 * c)) (w (56 + 3 * c))) := by
    rw [e4]
    exact gq_Rm hR h8 (p := 1) rfl (by unfold nb_lk; omega) hs
  have P4 : gq_P σ σ4 := by
    rw [e4]
    exact gq_Pup (gq_Prf σ) (by decide)
  have o4 : gw_m w (10 + 4 * w (55 + 3 * c)) (w (56 + 3 * c)) 1 ≤ 8 := by
    rw [gw_mne _ _ (by omega)]
    exact h8
  refine wk_let (fun σ5 e5 => ?_)
  have R5 : nb_R (sg_e1 1 σ5) (gy_p w c) := by
    rw [e5]
    exact gq_Rp R4 o4 _ (p := 12) rfl (by unfold nb_lk; omega)
  have P5 : gq_P σ σ5 := by
    rw [e5]
    exact gq_Pup P4 (by decide)
  have p1 : gy_p w c 1 = w 1 := gy_pne (by omega) (by omega) ht
  have t9 : (sg_e1 9 σ5) 0 0 = nb (w 1) := by
    have := nb_g8 R5
    rw [p1] at this
    exact this
  obtain ⟨κ2, a1, a2, a3⟩ := gy_remove h8 hc t9
  refine wk_bnd a1 (wk_let (fun σ6 e6 => ?_))
  have h6 : ∀ q k, q < 9 ∨ 13 ≤ q → σ6 q k = σ5 q k := fun q k hq => by rw [e6, nb_m1, if_neg (by omega)]
  have h6b : ∀ q k, q < 4 → σ6 (9 + q) k = κ2 q k := fun q k hq => by rw [e6, nb_m1, if_pos (by omega), (by omega : 9 + q - 9 = q)]
  have g1 : gy_w w c 1 = w 1 - 1 := by
    unfold gy_w
    rw [gm_1, p1]
  have R6 : nb_R (sg_e1 1 σ6) (gy_w w c) := by
    refine ⟨nb_Nx R5.1 (fun k h1 h2 => (gm_lo h2 (by omega)).symm) (fun p k hp => (h6 (1 + p) k (by omega)).symm), ?_, fun i hi => ?_⟩
    · rw [g1]
      exact (h6b 0 0 (by decide)).trans a2
    · rw [g1] at hi
      have q : ∀ p, 1 ≤ p → p ≤ 3 → sg_e1 8 (sg_e1 1 σ6) p i = if i < c then σ5 (9 + p) i else σ5 (9 + p) (i + 1) := fun p h1 h3 => by
        have e : sg_e1 8 (sg_e1 1 σ6) p i = σ6 (9 + p) i := by
          show σ6 (1 + (8 + p)) i = _
          rw [(by omega : 1 + (8 + p) = 9 + p)]
        rw [e, h6b p i (by omega), a3 p i h1 h3 hi]
        try rfl
      rw [q 1 (by decide) (by decide), q 2 (by decide) (by decide), q 3 (by decide) (by decide)]
      by_cases d : i < c
      · rw [if_pos d, if_pos d, if_pos d]
        unfold gy_w
        rw [gm_lo (by omega) (by omega), gm_lo (by omega) (by omega), gm_lo (by omega) (by omega)]
        exact R5.2.2 i (by omega)
      · rw [if_neg d, if_neg d, if_neg d]
        unfold gy_w
        rw [gm_hi (by omega) (by omega), gm_hi (by omega) (by omega), gm_hi (by omega) (by omega), (by omega : 55 + 3 * i + 3 = 55 + 3 * (i + 1)), (by omega : 56 + 3 * i + 3 = 56 + 3 * (i + 1)), (by omega : 57 + 3 * i + 3 = 57 + 3 * (i + 1))]
        exact R5.2.2 (i + 1) (by omega)
  refine wk_r ⟨?_, R6, by rw [e6]; exact gq_Pm1 P5 (by decide)⟩
  show σ6 2 (w (55 + 3 * c)) = _
  rw [gq_rd R6 (p := 1) (j := 10 + 4 * w (55 + 3 * c)) rfl (by unfold nb_lk; omega)]
  unfold gy_w gy_p
  rw [gm_lo (by omega) (by omega), gw_pne _ _ (by omega), gw_mat]
theorem gy_isC {τ : sg_S} {w : Nat → Nat} (hV : nb_V (τ 1) w) (h8 : w 1 ≤ 8) (x : Int32) : (∃ c, c < w 1 ∧ x = nb c ∧ f_X8_isCredit x τ = some 1) ∨ (f_X8_isCredit x τ = some 0 ∧ ∀ κ : sg_S, κ 0 0 = nb (w 1) → f_X1_isThere x κ = some 0) := by
  by_cases h0 : 0 ≤ x
  · by_cases h1 : x < nb (w 1)
    · left
      obtain ⟨c, hc, e⟩ := nb_of_lt (k := w 1) (by omega) h0 h1
      refine ⟨c, hc, e, ?_⟩
      subst e
      have e1 : nb (w 1) - 1 = nb (w 1 - 1) := nb_sub (b := 1) (by omega)
      unfold f_X8_isCredit
      rw [hV 1 (by decide), e1]
      unfold f_X8_isIn
      rw [if_pos h0, if_pos (nb_le_t (by omega) (by omega)), nb_bnd, nb_grd (by decide)]
    · right
      refine ⟨?_, fun κ hκ => ?_⟩
      · have h2 : ¬ x ≤ nb (w 1) - 1 := by
          intro c
          by_cases z : w 1 = 0
          · rw [z] at c
            have c2 : x ≤ -1 := c
            exact absurd (Int32.le_trans h0 c2) (by decide)
          · have e1 : nb (w 1) - 1 = nb (w 1 - 1) := nb_sub (b := 1) (by omega)
            rw [e1] at c
            obtain ⟨d, hd, e⟩ := nb_of_le (k := w 1 - 1) (by omega) h0 c
            exact h1 (by rw [e]; exact nb_lt_t (by omega) (by omega))
        unfold f_X8_isCredit
        rw [hV 1 (by decide)]
        unfold f_X8_isIn
        rw [if_pos h0, if_neg h2, nb_bnd, nb_grd (by decide)]
      · unfold f_X1_isThere
        rw [if_pos h0, hκ, if_neg h1]
  · right
    refine ⟨?_, fun κ hκ => ?_⟩
    · unfold f_X8_isCredit
      unfold f_X8_isIn
      rw [if_neg h0, nb_bnd, nb_grd (by decide)]
    · unfold f_X1_isThere
      rw [if_neg h0]
theorem gy_repay2 {w : Nat → Nat} {τ : sg_S} {c : Nat} (hV : nb_V (τ 1) w) (h8 : w 1 ≤ 8) (hc : c < w 1) (y : f_X8_isCredit (nb c) τ = some 1) (ht : w (55 + 3 * c) < 5) (hh : w (56 + 3 * c) ≤ 20) (hs : w (56 + 3 * c) ≤ w (10 + 4 * w (55 + 3 * c))) (h60 : w (10 + 4 * w (55 + 3 * c)) ≤ 60) : wk_K (f_X8_repays (nb c) τ) (gq_S2 (gy_w w c) τ (w (10 + 4 * w (55 + 3 * c)) - w (56 + 3 * c))) := by
  unfold f_X8_repays
  refine wk_bnd y (wk_f nb_10 (wk_bnd (nb_in0 c) (wk_grd (nb_i79 (by omega)) ?_)))
  rw [nb_t79 (by omega), hV (55 + 3 * c) (by omega)]
  refine wk_lets (wk_bnd (nb_in1 c) (wk_grd (nb_i79 (by omega)) ?_))
  rw [nb_t79 (by omega), hV (56 + 3 * c) (by omega)]
  refine wk_lets (wk_bnd (nb_at0 _) (wk_grd (nb_i79 (by omega)) ?_))
  rw [nb_t79 (by omega)]
  refine wk_f (by rw [hV _ (by omega)]; exact nb_lt_f hs (by omega)) (wk_bnd (nb_at0 _) (wk_grd (nb_i79 (by omega)) ?_))
  rw [nb_t79 (by omega)]
  refine wk_let (fun σ4 e4 => ?_)
  have V4 : nb_V (σ4 1) (gw_m w (10 + 4 * w (55 + 3 * c)) (w (56 + 3 * c))) := by
    rw [e4]
    exact nb_Vm hV (by omega) hs
  have F4 : nb_F0 τ σ4 := by
    rw [e4]
    exact nb_F0u _ _ _
  refine wk_let (fun σ5 e5 => ?_)
  have V5 : nb_V (σ5 1) (gy_p w c) := by
    rw [e5]
    exact nb_Vp V4 (by decide) _
  have F5 : nb_F0 τ σ5 := by
    rw [e5]
    exact nb_F0tr F4 (nb_F0u _ _ _)
  obtain ⟨τ6, a1, a2, a3⟩ := gm_goes (c := c) V5 (by omega) (by rw [gy_pne (by omega) (by omega) ht]; omega)
  refine wk_bnd a1 (wk_bnd (nb_at0 _) (wk_grd (nb_i79 (by omega)) ?_))
  rw [nb_t79 (by omega)]
  refine wk_r ⟨?_, a2, nb_Fw (nb_F0tr F5 (fun p k h1 _ => a3 p k h1))⟩
  show τ6 1 (10 + 4 * w (55 + 3 * c)) = _
  rw [a2 _ (by omega), gm_lo (by omega) (by omega)]
  unfold gy_p
  rw [gw_pne _ _ (by omega), gw_mat]
theorem ge_repay {m : Nat} {w : Nat → Nat} {c : Nat} (h : ge_E m w) (ht : w (55 + 3 * c) < 5) (hh : w (56 + 3 * c) ≤ 20) (hs : w (56 + 3 * c) ≤ w (10 + 4 * w (55 + 3 * c))) : ge_E (m + 1) (gy_w w c) := by
  obtain ⟨a, b, c1, d1, d2, d3, d4, d5, d6⟩ := h
  have lo : ∀ x, x ≠ 1 → x < 55 → gy_w w c x = gy_p w c x := fun x h1 h2 => gm_lo h1 (by omega)
  have oth : ∀ x, 2 ≤ x → x ≠ 3 → x < 10 → gy_w w c x = w x := fun x h1 h3 h2 => by
    rw [lo x (by omega) (by omega)]
    unfold gy_p
    rw [gw_pne _ _ h3, gw_mne _ _ (by omega)]
  have e3 : gy_w w c 3 = w 3 + w (56 + 3 * c) := by
    rw [lo 3 (by decide) (by decide)]
    unfold gy_p
    rw [gw_pat, gw_mne _ _ (by omega)]
  have hsu := ge_su (w := w) (w2 := gy_w w c) ht (v := w (10 + 4 * w (55 + 3 * c)) - w (56 + 3 * c)) (fun q hq => by
    rw [lo _ (by omega) (by omega)]
    unfold gy_p
    rw [gw_pne _ _ (by omega)]
    unfold gw_m
    by_cases d : q = w (55 + 3 * c)
    · rw [← d, if_pos rfl, if_pos rfl]
    · rw [if_neg (by omega), if_neg d])
  have hl := ge_le (w := w) ht
  have k1 : gy_w w c 1 = w 1 - 1 := by
    unfold gy_w
    rw [gm_1]
    unfold gy_p
    rw [gw_pne _ _ (by decide), gw_mne _ _ (by omega)]
  have k2 := oth 2 (by decide) (by decide) (by decide)
  have k4 := oth 4 (by decide) (by decide) (by decide)
  have k5 := oth 5 (by decide) (by decide) (by decide)
  have k6 := oth 6 (by decide) (by decide) (by decide)
  have k7 := oth 7 (by decide) (by decide) (by decide)
  have k8 := oth 8 (by decide) (by decide) (by decide)
  have k9 := oth 9 (by decide) (by decide) (by decide)
  exact ⟨by omega, by omega, by omega, by omega, by omega, by omega, by omega, by omega, by omega⟩
theorem gq_repay {m : Nat} {w : Nat → Nat} {σ τ : sg_S} (h : gq_H m w σ τ) (x : Int32) : gq_A m w σ τ (f_X7_takeBack x σ) (f_X8_repays x τ) := by
  have h0 := h
  obtain ⟨hR, hV, hI, hW, hz, hm, h6⟩ := h
  obtain ⟨j1, j2, j3, j4, j5, j6, j7⟩ := hI.2
  have s9 : (sg_e1 9 σ) 0 0 = nb (w 1) := nb_g8 hR
  rcases gy_isC hV j1 x with ⟨c, hc, e, y⟩ | ⟨y, y2⟩
  · subst e
    obtain ⟨k1, k2, k3, k4, k5⟩ := j6 c hc
    obtain ⟨b1, b2, b3, b4⟩ := j3 _ k1
    by_cases d : w (10 + 4 * w (55 + 3 * c)) < w (56 + 3 * c)
    · refine gq_Ae ?_ ?_ (gq_ref h0 4 (nb (w (10 + 4 * w (55 + 3 * c)))) (by decide))
      · obtain ⟨c1, c2, c3⟩ := hR.2.2 c hc
        have c1' : σ 10 c = nb (w (55 + 3 * c)) := c1
        have c2' : σ 11 c = nb (w (56 + 3 * c)) := c2
        have s2 : σ 2 (w (55 + 3 * c)) = nb (w (10 + 4 * w (55 + 3 * c))) := nb_g1 hR.1 k1
        unfold f_X7_takeBack
        rw [gs_there s9 j1 hc, nb_bnd, if_neg nb_10, nb_grd (nb_i8 (by omega)), nb_t8 (by omega), c1', c2', nb_let, nb_let, (nb_townE k1).1, nb_bnd, if_neg nb_10, nb_grd (nb_i5 k1), nb_t5 k1, s2, if_pos (nb_lt_t d (by omega))]
        try rfl
      · unfold f_X8_repays
        rw [y, nb_bnd, if_neg nb_10, nb_in0, nb_bnd, nb_grd (nb_i79 (by omega)), nb_t79 (by omega), hV (55 + 3 * c) (by omega), nb_let, nb_in1, nb_bnd, nb_grd (nb_i79 (by omega)), nb_t79 (by omega), hV (56 + 3 * c) (by omega), nb_let, nb_at0, nb_bnd, nb_grd (nb_i79 (by omega)), nb_t79 (by omega), hV (10 + 4 * w (55 + 3 * c)) (by omega), if_pos (nb_lt_t d (by omega)), nb_bnd, nb_grd (nb_i79 (by omega)), nb_t79 (by omega), hV (10 + 4 * w (55 + 3 * c)) (by omega)]
        try rfl
    · have p1 : gy_w w c 0 = w 0 := by
        unfold gy_w
        rw [gm_lo (by omega) (by omega), gy_pne (by omega) (by omega) k1]
      refine gq_fin h0 (n := w (10 + 4 * w (55 + 3 * c)) - w (56 + 3 * c)) (by omega) (gy_repay1 hR j1 hc k1 k3 (by omega) b1) (gy_repay2 hV j1 hc y k1 k3 (by omega) b1) ⟨?_, gy_J hI.2 hc (by omega)⟩
      refine ⟨?_, ge_repay hI.1.2 k1 k3 (by omega)⟩
      rw [p1]
      exact Nat.le_succ_of_le hI.1.1
  · refine gq_Ae ?_ ?_ (gq_bad h0 (r := -1) (Or.inl rfl))
    · unfold f_X7_takeBack
      rw [y2 _ s9, nb_bnd, if_pos rfl]
    · unfold f_X8_repays
      rw [y, nb_bnd, if_pos rfl]
/-! All of them, by their numbers -/
theorem gq_do {m : Nat} {w : Nat → Nat} {σ τ : sg_S} (h : gq_H m w σ τ) {k : Nat} (hk : k < 8) (x y z : Int32) : gq_A m w σ τ (f_X7_perform (nb k) x y z σ) (f_X8_does (nb k) x y z τ) := by
  have B : ∀ o : Option (Int32 × sg_S), sg_bnd2 o (fun r s => some (r, s)) = o := by
    intro o
    cases o with
    | none => rfl
    | some v => rfl
  rcases (by omega : k = 0 ∨ k = 1 ∨ k = 2 ∨ k = 3 ∨ k = 4 ∨ k = 5 ∨ k = 6 ∨ k = 7) with rfl | rfl | rfl | rfl | rfl | rfl | rfl | rfl
  · refine gq_Ae ?_ ?_ (gq_treat h x y (i := 1) (by decide))
    · unfold f_X7_perform
      rw [if_pos (by decide), B]
      try rfl
    · unfold f_X8_does
      rw [if_pos (by decide), B]
      try rfl
  · refine gq_Ae ?_ ?_ (gq_treat h x y (i := 0) (by decide))
    · unfold f_X7_perform
      rw [if_neg (by decide), if_pos (by decide), B]
      try rfl
    · unfold f_X8_does
      rw [if_neg (by decide), if_pos (by decide), B]
      try rfl
  · refine gq_Ae ?_ ?_ (gq_credit h x y z)
    · unfold f_X7_perform
      rw [if_neg (by decide), if_neg (by decide), if_pos (by decide), B]
    · unfold f_X8_does
      rw [if_neg (by decide), if_neg (by decide), if_pos (by decide), B]
  · refine gq_Ae ?_ ?_ (gq_repay h x)
    · unfold f_X7_perform
      rw [if_neg (by decide), if_neg (by decide), if_neg (by decide), if_pos (by decide), B]
    · unfold f_X8_does
      rw [if_neg (by decide), if_neg (by decide), if_neg (by decide), if_pos (by decide), B]
  · refine gq_Ae ?_ ?_ (gq_rain h x y)
    · unfold f_X7_perform
      rw [if_neg (by decide), if_neg (by decide), if_neg (by decide), if_neg (by decide), if_pos (by decide), B]
    · unfold f_X8_does
      rw [if_neg (by decide), if_neg (by decide), if_neg (by decide), if_neg (by decide), if_pos (by decide), B]
  · refine gq_Ae ?_ ?_ (gq_bail h x y)
    · unfold f_X7_perform
      rw [if_neg (by decide), if_neg (by decide), if_neg (by decide), if_neg (by decide), if_neg (by decide), if_pos (by decide), B]
    · unfold f_X8_does
      rw [if_neg (by decide), if_neg (by decide), if_neg (by decide), if_neg (by decide), if_neg (by decide), if_pos (by decide), B]
  · refine gq_Ae ?_ ?_ (gq_buy h x)
    · unfold f_X7_perform
      rw [if_neg (by decide), if_neg (by decide), if_neg (by decide), if_neg (by decide), if_neg (by decide), if_neg (by decide), if_pos (by decide), B]
    · unfold f_X8_does
      rw [if_neg (by decide), if_neg (by decide), if_neg (by decide), if_neg (by decide), if_neg (by decide), if_neg (by decide), if_pos (by decide), B]
  · refine gq_Ae ?_ ?_ (gq_month h)
    · unfold f_X7_perform
      rw [if_neg (by decide), if_neg (by decide), if_neg (by decide), if_neg (by decide), if_neg (by decide), if_neg (by decide), if_neg (by decide)]
    · unfold f_X8_does
      rw [if_neg (by decide), if_neg (by decide), if_neg (by decide), if_neg (by decide), if_neg (by decide), if_neg (by decide), if_neg (by decide), B]
