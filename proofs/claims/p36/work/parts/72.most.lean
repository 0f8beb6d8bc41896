/-! THE MOST CREDIT THAT WOULD BE PAID -/
theorem wp_snoc : ∀ (n : Nat) (τ τ2 τ3 : sg_S) (r : Int32), wp_M n τ τ2 → f_X8_months τ2 = some (r, τ3) → wp_M (n + 1) τ τ3 := by
  intro n
  induction n with
  | zero =>
    intro τ τ2 τ3 r h e
    have e2 : τ2 = τ := h
    subst e2
    exact ⟨r, τ3, e, rfl⟩
  | succ n ih =>
    intro τ τ2 τ3 r h e
    obtain ⟨q, τ1, a, b⟩ := h
    exact ⟨q, τ1, a, ih τ1 τ2 τ3 r b e⟩
theorem wp_to (w : Nat → Nat) (T d : Nat) : gc_to (gw_p w 0 1) T d = gc_to w T d := by
  unfold gc_to
  rw [gw_pne w 1 (show (1 : Nat) ≠ 0 by decide)]
  exact gc_sx (fun c _ => by
    refine ⟨?_, gw_pne w 1 (by omega)⟩
    show (decide (gw_p w 0 1 (55 + 3 * c) = T) && decide (gw_p w 0 1 (57 + 3 * c) = d)) = (decide (w (55 + 3 * c) = T) && decide (w (57 + 3 * c) = d))
    rw [gw_pne w 1 (show 55 + 3 * c ≠ 0 by omega), gw_pne w 1 (show 57 + 3 * c ≠ 0 by omega)])
def wq_f (τ τ2 : sg_S) : Prop := ∀ p k, p ≠ 4 → p ≠ 7 → (p = 1 → k < 79) → (p = 0 → k ≠ 0 ∧ k ≠ 15) → τ2 p k = τ p k
theorem wq_paid {m : Nat} {σ τ : sg_S} {w : Nat → Nat} {t H M : Nat} (hR : nb_R (sg_e1 1 σ) w) (hV : nb_V (τ 1) w) (hI : gi_I m w) (hm : m < 8900) (h6 : ∀ k, k < 12 → τ 6 k = sg_sun k) (ht : t < 5) (h8 : w 1 < 8) (hH1 : 1 ≤ H) (hH : H ≤ 20) (hM1 : 1 ≤ M) (hM : M ≤ 6) (h0 : w (13 + 4 * t) = 0) (h60 : w (10 + 4 * t) + H ≤ 60) (u2 : f_X8_isIn (nb H) 1 20 = some 1) (v2 : f_X8_isIn (nb M) 1 6 = some 1) : ∃ b σ2 τ2, b ≤ 1 ∧ f_X7_wouldBePaid (nb t) (nb H) (nb M) σ = some (nb b, σ2) ∧ f_X8_wouldPay (nb t) (nb H) (nb M) τ = some (nb b, τ2) ∧ (∀ p k, ¬ (28 ≤ p ∧ p < 41) → σ2 p k = σ p k) ∧ wq_f τ τ2 := by
  have hJ := hI.2
  obtain ⟨τc, e1, a1, b1⟩ := wp_copy σ hR (by omega)
  obtain ⟨τd, e2, b2⟩ := hr_ly (τ := τ) (a := 4) (b := 1) (by decide)
  unfold f_X7_wouldBePaid f_X8_wouldPay
  rw [(nb_townE ht).1, nb_bnd, if_neg nb_10, e1, nb_bnd, nb_let, e2, nb_bnd, nb_let]
  generalize sg_m2 28 13 1 13 σ τc = σ3 at a1 b1
  generalize sg_m2 4 1 1 1 τ τd = τ3 at b2
  have hV3 : nb_V (τ3 1) w := fun k hk => by
    rw [b2, if_neg (by omega)]
    exact hV k hk
  obtain ⟨ρ2, e3, a3⟩ := gl_give (H := H) (M := M) a1 h8 ht
  obtain ⟨⟨r5, τ5⟩, e5, c5, V5, F5⟩ := gl_credit2 (M := M) hV3 h8 ht hH h0 h60 u2 v2
  have V5' : nb_V (τ5 1) (gl_w w t H M) := V5
  have F5' : nb_F τ3 τ5 := F5
  rw [e3, nb_bnd, nb_let, e5, nb_bnd2]
  have hR8 : nb_R (sg_e1 28 (sg_m1 28 13 σ3 ρ2)) (gl_w w t H M) := nb_Rx a3 (by rw [gl_n]; omega) (fun _ _ => rfl) (fun p k hp _ _ => by
    show ρ2 p k = sg_m1 28 13 σ3 ρ2 (28 + p) k
    rw [nb_m1, if_pos (by omega), (by omega : 28 + p - 28 = p)])
  have hJ8 := gl_J hJ ht h8 hH1 hH hM1 hM h0 h60
  have hI8 : gi_I (m + 1) (gl_w w t H M) := ⟨⟨by rw [gl_0]; exact Nat.le_succ_of_le hI.1.1, ge_credit hI.1.2 ht hH⟩, hJ8⟩
  have h65 : ∀ k, k < 12 → τ5 6 k = sg_sun k := fun k hk => by rw [F5' 6 k (by decide) (by decide) (by omega), b2, if_neg (by omega), h6 k hk]
  obtain ⟨σ9, τ9, w9, d1, d2, d3, d4, d5, d6, d7, d8, d9⟩ := wp_both (M - 1) (m + 1) _ τ5 _ hR8 V5' hI8 (by omega) h65
  rw [gl_0] at d8 d9
  have hT : wp_T (gl_w w t H M) t (w 0 + M) := by
    obtain ⟨n1, n2, n3⟩ := gl_new (w := w) (t := t) (H := H) (M := M) ht
    have n0 := gl_n (w := w) (t := t) (H := H) (M := M)
    refine ⟨by omega, ?_, ?_⟩
    · rw [n0, (by omega : w 1 + 1 - 1 = w 1), n1]
    · rw [n0, (by omega : w 1 + 1 - 1 = w 1), n3]
  obtain ⟨t1, t2, t3⟩ := d9 t (w 0 + M) hT (by omega)
  obtain ⟨rA, ρA, τA, wA, p1, p2, p3, p4, p5, p6, p7, p8, p9⟩ := gn_pass d3 d4 d5 (by omega) (fun k hk => by rw [d6 6 k (by decide) (by decide) (by omega), h65 k hk])
  have gL := (p9 t1).2
  have x1 : gw_p w9 0 1 1 = w9 1 := gw_pne _ _ (by decide)
  rw [x1, gw_pne w9 1 (show 57 + 3 * (w9 1 - 1) ≠ 0 by omega), gw_pat, gw_pne w9 1 (show 55 + 3 * (w9 1 - 1) ≠ 0 by omega), t2, wp_to, gw_pne w9 1 (show 10 + 4 * t ≠ 0 by omega), t3] at gL
  have gP := gL (by omega)
  have k1 := wp_l33 (x := nb t) (y := nb H) (M - 1) 1 M 1000 _ σ9 (by omega) (by omega) (by omega) d1
  have k1' : f_X7_wouldBePaid_L33 (nb t) (nb H) (nb M) 1000 1 (sg_m1 28 13 σ3 ρ2) = _ := k1
  have k2 := wp_l26 (x := nb t) (y := nb H) M 0 M 1000 0 τ5 τA (by omega) (by omega) (by omega) ((by omega : M - 1 + 1 = M) ▸ wp_snoc (M - 1) τ5 τ9 τA (nb rA) d2 p2)
  have k2' : f_X8_wouldPay_L26 (nb t) (nb H) (nb M) 1000 0 0 τ5 = _ := k2
  rw [k1', k2']
  obtain ⟨τe, e7, b7⟩ := hr_ly (τ := τA) (a := 1) (b := 4) (by decide)
  have s0 : σ9 28 0 = nb (w9 0) := nb_g0 d3.1
  have s1 : σ9 29 t = nb (w9 (10 + 4 * t)) := nb_g1 d3.1 ht
  have hJ9 := d5.2
  obtain ⟨j1, j2, j3, j4, j5, j6, j7⟩ := id hJ9
  have hO : f_X1_owedIn (nb t) (nb (w9 0 + 1)) (sg_e1 36 σ9) = some (nb (gc_to w9 t (w9 0 + 1))) := gc_owedIn (κ := sg_e1 36 σ9) d3.2 (gz_K hJ9) ht (by omega)
  have lim : gc_to w9 t (w9 0 + 1) ≤ 20 * w9 1 := gl_sle _ _ 20 _ (fun c hc => (j6 c hc).2.2.1)
  have l10 := (j3 t ht).1
  rw [nb_grd (nb_i5 ht), s0, nb_succ, hO, nb_bnd, nb_t5 ht, s1, e7, nb_bnd, nb_let, b7, if_neg (show ¬ ((0 : Nat) = 1 ∧ (15 : Nat) < 79) by omega), gP]
  have ff : ∀ p k, ¬ (28 ≤ p ∧ p < 41) → σ9 p k = σ p k := fun p k hp => by rw [d7 p k hp, nb_m1, if_neg (by omega), b1 p k hp]
  have f2 : wq_f τ (sg_m2 1 1 4 1 τA τe) := fun p k h4 h7 h1 h0 => by
    rw [b7]
    by_cases d : p = 1 ∧ k < 79
    · rw [if_pos d, p6 4 k (by decide) (by decide) (by omega), d6 4 k (by decide) (by decide) (by omega), F5' 4 k (by decide) (by decide) (by omega), b2, if_pos ⟨rfl, d.2⟩, d.1]
    · have hp1 : p ≠ 1 := fun q => d ⟨q, h1 q⟩
      have hp0 : p = 0 → k ≠ 15 := fun q => (h0 q).2
      rw [if_neg d, p6 p k hp1 h7 hp0, d6 p k hp1 h7 hp0, F5' p k hp1 h7 hp0, b2, if_neg (fun q => h4 q.1)]
  by_cases c : gc_to w9 t (w9 0 + 1) ≤ w9 (10 + 4 * t)
  · have c2 : gc_to w9 t (w 0 + M) ≤ w9 (10 + 4 * t) := by
      rw [(by omega : w 0 + M = w9 0 + 1)]
      exact c
    refine ⟨1, σ9, sg_m2 1 1 4 1 τA τe, Nat.le_refl 1, ?_, ?_, ff, f2⟩
    · rw [if_pos (nb_le_t c (by omega))]
      try rfl
    · first | rw [if_pos c] | rw [if_pos c2]
      try rfl
  · have c2 : ¬ gc_to w9 t (w 0 + M) ≤ w9 (10 + 4 * t) := by
      rw [(by omega : w 0 + M = w9 0 + 1)]
      exact c
    refine ⟨0, σ9, sg_m2 1 1 4 1 τA τe, Nat.zero_le 1, ?_, ?_, ff, f2⟩
    · rw [if_neg (nb_le_f (by omega) (by omega))]
      try rfl
    · first | rw [if_neg c] | rw [if_neg c2]
      try rfl
theorem wq_loop {m : Nat} {w : Nat → Nat} {t M : Nat} (hI : gi_I m w) (hm : m < 8900) (ht : t < 5) (h8 : w 1 < 8) (hM1 : 1 ≤ M) (hM : M ≤ 6) (h0 : w (13 + 4 * t) = 0) (v2 : f_X8_isIn (nb M) 1 6 = some 1) : ∀ (H f1 f2 : Nat) (σ τ : sg_S), H ≤ 20 → H < f1 → H < f2 → w (10 + 4 * t) + H ≤ 60 → nb_R (sg_e1 1 σ) w → nb_V (τ 1) w → (∀ k, k < 12 → τ 6 k = sg_sun k) → ∃ r σ2 τ2, f_X7_most_L66 (nb t) (nb M) f1 (nb H) σ = some (r, σ2) ∧ f_X8_most_L75 (nb t) (nb M) f2 (nb H) τ = some (r, τ2) ∧ (∀ p k, ¬ (28 ≤ p ∧ p < 41) → σ2 p k = σ p k) ∧ wq_f τ τ2 := by
  intro H
  induction H with
  | zero =>
    intro f1 f2 σ τ h20 hf1 hf2 h60 hR hV h6
    obtain ⟨f1, rfl⟩ : ∃ k, f1 = k + 1 := ⟨f1 - 1, by omega⟩
    obtain ⟨f2, rfl⟩ : ∃ k, f2 = k + 1 := ⟨f2 - 1, by omega⟩
    rw [f_X7_most_L66, f_X8_most_L75, if_neg nb_npos, if_neg nb_npos]
    exact ⟨0, σ, τ, rfl, rfl, fun _ _ _ => rfl, fun _ _ _ _ _ _ => rfl⟩
  | succ H ih =>
    intro f1 f2 σ τ h20 hf1 hf2 h60 hR hV h6
    obtain ⟨f1, rfl⟩ : ∃ k, f1 = k + 1 := ⟨f1 - 1, by omega⟩
    obtain ⟨f2, rfl⟩ : ∃ k, f2 = k + 1 := ⟨f2 - 1, by omega⟩
    have u2 : f_X8_isIn (nb (H + 1)) 1 20 = some 1 := by
      unfold f_X8_isIn
      rw [if_pos (show (1 : Int32) ≤ nb (H + 1) from nb_le_t (a := 1) (by omega) (by omega)), if_pos (show nb (H + 1) ≤ (20 : Int32) from nb_le_t (b := 20) h20 (by decide))]
    obtain ⟨b, σ2, τ2, hb, a1, a2, a3, a4⟩ := wq_paid hR hV hI hm h6 ht h8 (by omega) h20 hM1 hM h0 h60 u2 v2
    have hp := nb_pos (t := H + 1) (by omega) (by omega)
    rw [f_X7_most_L66, f_X8_most_L75, if_pos hp, if_pos hp, a1, a2, nb_bnd2, nb_bnd2]
    rcases (by omega : b = 0 ∨ b = 1) with rfl | rfl
    · rw [if_pos (show nb 0 = 0 from rfl), if_pos (show nb 0 = 0 from rfl), nb_dec]
      obtain ⟨r, σ3, τ3, c1, c2, c3, c4⟩ := ih f1 f2 σ2 τ2 (by omega) (by omega) (by omega) (by omega) (nb_Rx hR (by omega) (fun _ _ => rfl) (fun p k hp _ _ => (a3 _ _ (by omega)).symm)) (fun k hk => by rw [a4 1 k (by decide) (by decide) (fun _ => hk) (by omega)]; exact hV k hk) (fun k hk => by rw [a4 6 k (by decide) (by decide) (by omega) (by omega)]; exact h6 k hk)
      exact ⟨r, σ3, τ3, c1, c2, fun p k hp => (c3 p k hp).trans (a3 p k hp), fun p k h4 h7 h1 h0 => (c4 p k h4 h7 h1 h0).trans (a4 p k h4 h7 h1 h0)⟩
    · rw [if_neg (show ¬ nb 1 = 0 from nb_10), if_neg (show ¬ nb 1 = 0 from nb_10)]
      exact ⟨_, σ2, τ2, rfl, rfl, a3, a4⟩
theorem gz_most {m : Nat} {σ τ : sg_S} (h : gx_A m σ τ) (hm : m < 8900) (x y : Int32) : ∃ r σ2 τ2, f_X7_most x y σ = some (r, σ2) ∧ f_X8_most x y τ = some (r, τ2) ∧ gx_f1 σ σ2 ∧ gx_f2 τ τ2 := by
  obtain ⟨⟨w, hR, hV, hI⟩, hW, h6, hH, hS, hf⟩ := h
  obtain ⟨j1, j2, j3, j4, j5, j6, j7⟩ := id hI.2
  unfold f_X7_most f_X8_most
  rcases nb_town x with ⟨t, ht, e, t1, t2⟩ | ⟨t1, t2⟩
  · subst e
    rw [t1, t2, nb_bnd, nb_bnd, if_neg nb_10, if_neg nb_10]
    rcases nb_months y with ⟨M, hM1, hM, e, v1, v2⟩ | ⟨v1, v2⟩
    · subst e
      obtain ⟨b1, b2, b3, b4⟩ := j3 t ht
      have s5 : σ 5 t = nb (w (13 + 4 * t)) := nb_g4 hR.1 ht
      have s2 : σ 2 t = nb (w (10 + 4 * t)) := nb_g1 hR.1 ht
      have s9 : σ 9 0 = nb (w 1) := nb_g8 hR
      have e60 : (60 : Int32) - nb (w (10 + 4 * t)) = nb (60 - w (10 + 4 * t)) := nb_sub (a := 60) b1
      rw [v1, v2, nb_bnd, nb_bnd, if_neg nb_10, if_neg nb_10, nb_grd (nb_i5 ht), nb_t5 ht, s5, s2, s9, nb_at3, nb_bnd, nb_grd (nb_i79 (by omega)), nb_t79 (by omega), hV (13 + 4 * t) (by omega), hV 1 (by decide), e60]
      by_cases c : w (13 + 4 * t) = 0
      · have l0 : nb (w (13 + 4 * t)) ≤ (0 : Int32) := by
          rw [c]
          decide
        rw [if_pos l0, if_pos l0]
        by_cases c8 : w 1 = 8
        · rw [if_pos (by rw [c8]; decide), if_pos (by rw [c8]; decide)]
          exact ⟨_, σ, τ, rfl, rfl, gx_f1r σ, gx_f2r τ⟩
        · rw [if_neg (show ¬ (8 : Int32) ≤ nb (w 1) from nb_le_f (a := 8) (by omega) (by decide)), if_neg (show ¬ nb (w 1) = 8 from nb_ne (b := 8) c8 (by omega) (by decide)), nb_at0, nb_bnd, nb_grd (nb_i79 (by omega)), nb_t79 (by omega), hV (10 + 4 * t) (by omega), e60, nb_let]
          have fin : ∀ H, H ≤ 20 → w (10 + 4 * t) + H ≤ 60 → ∃ r σ2 τ2, f_X7_most_L66 (nb t) (nb M) 1000 (nb H) σ = some (r, σ2) ∧ f_X8_most_L75 (nb t) (nb M) 1000 (nb H) τ = some (r, τ2) ∧ gx_f1 σ σ2 ∧ gx_f2 τ τ2 := fun H h20 h60 => by
            obtain ⟨r, σ2, τ2, a1, a2, a3, a4⟩ := wq_loop hI hm ht (by omega) hM1 hM c v2 H 1000 1000 σ τ h20 (by omega) (by omega) h60 hR hV h6
            exact ⟨r, σ2, τ2, a1, a2, wp_f1 a3, fun p k _ h4 h7 _ h1 h0 => a4 p k h4 h7 h1 (by omega)⟩
          by_cases d : 60 - w (10 + 4 * t) < 20
          · have d2 : nb (60 - w (10 + 4 * t)) < (20 : Int32) := nb_lt_t (b := 20) d (by decide)
            rw [if_pos d2, nb_let, if_pos d2]
            exact fin _ (by omega) (by omega)
          · have d2 : ¬ nb (60 - w (10 + 4 * t)) < (20 : Int32) := nb_lt_f (b := 20) (by omega) (by omega)
            rw [if_neg d2, nb_let, if_neg d2]
            exact fin 20 (by omega) (by omega)
      · have l0 : ¬ nb (w (13 + 4 * t)) ≤ (0 : Int32) := nb_le_f (b := 0) (by omega) (by omega)
        rw [if_neg l0, if_neg l0]
        exact ⟨_, σ, τ, rfl, rfl, gx_f1r σ, gx_f2r τ⟩
    · rw [v1, v2, nb_bnd, nb_bnd, if_pos rfl, if_pos rfl]
      exact ⟨_, σ, τ, rfl, rfl, gx_f1r σ, gx_f2r τ⟩
  · rw [t1, t2, nb_bnd, nb_bnd, if_pos rfl, if_pos rfl]
    exact ⟨_, σ, τ, rfl, rfl, gx_f1r σ, gx_f2r τ⟩
