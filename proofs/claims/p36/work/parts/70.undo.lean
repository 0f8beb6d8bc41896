/-! UNDO, SAVE, RESTORE -/
theorem gd_undoL {τ : sg_S} {c : Nat} (hc : c < 8) (h01 : τ 0 1 = nb c) : ∀ (m j f : Nat) (τ1 : sg_S), j + m = 79 → m < f → (∀ p k, τ1 p k = if p = 1 ∧ k < j then τ 5 (79 * c + k) else τ p k) → ∃ τ2, f_X8_undo_L22 f (nb j) τ1 = some (nb c, τ2) ∧ (∀ p k, τ2 p k = if p = 1 ∧ k < 79 then τ 5 (79 * c + k) else τ p k) := by
  intro m
  induction m with
  | zero =>
    intro j f τ1 h1 h2 h3
    obtain ⟨f, rfl⟩ : ∃ k, f = k + 1 := ⟨f - 1, by omega⟩
    have ej : j = 79 := by omega
    subst ej
    have e1 : τ1 0 1 = nb c := by rw [h3, if_neg (by omega), h01]
    rw [f_X8_undo_L22, if_neg (show ¬ nb 79 < (79 : Int32) by decide), e1]
    exact ⟨τ1, rfl, h3⟩
  | succ m ih =>
    intro j f τ1 h1 h2 h3
    obtain ⟨f, rfl⟩ : ∃ k, f = k + 1 := ⟨f - 1, by omega⟩
    have e1 : τ1 0 1 = nb c := by rw [h3, if_neg (by omega), h01]
    have e2 : nb c * 79 + nb j = nb (c * 79 + j) := by
      show nb c * nb 79 + nb j = _
      rw [nb_mul, nb_add]
    have e3 : sg_in (nb (c * 79 + j)) 632 = true := nb_in (by omega) (by decide)
    rw [f_X8_undo_L22, if_pos (show nb j < (79 : Int32) from nb_lt_t (b := 79) (by omega) (by decide)), e1, e2, nb_grd e3, nb_grd (nb_i79 (by omega)), nb_tn (a := c * 79 + j) (by omega), nb_t79 (i := j) (by omega), nb_let, nb_succ]
    refine ih (j + 1) f _ (by omega) (by omega) (fun p k => ?_)
    rw [nb_up]
    by_cases d : p = 1 ∧ k = j
    · rw [if_pos d, if_pos (by omega), h3, if_neg (by omega), d.2, (by omega : c * 79 + j = 79 * c + j)]
    · rw [if_neg d, h3]
      by_cases d2 : p = 1 ∧ k < j
      · rw [if_pos d2, if_pos (by omega)]
      · rw [if_neg d2, if_neg (by omega)]
theorem gd_undo {m : Nat} {σ τ : sg_S} (hA : gx_A m σ τ) : ∃ r σ2 τ2, f_X7_undo σ = some (r, σ2) ∧ f_X8_undo τ = some (r, τ2) ∧ gx_A m σ2 τ2 ∧ gx_U σ τ σ2 τ2 := by
  have hA0 := hA
  obtain ⟨⟨w, r1, r2, r3⟩, hW, h6, hH, hS, hf⟩ := hA
  obtain ⟨c, s, hc, hs, k0, k1, t1, hrow⟩ := hH
  have k0' : σ 54 0 = nb c := k0
  unfold f_X7_undo f_X8_undo
  rw [k0', t1]
  by_cases c0 : c = 0
  · subst c0
    rw [if_pos (show nb 0 = 0 from rfl), if_pos (show nb 0 = 0 from rfl)]
    exact ⟨-3, σ, τ, rfl, rfl, hA0, fun _ _ _ => rfl, fun _ _ _ _ => rfl, rfl, rfl⟩
  · have cn : ¬ nb c = 0 := nb_ne (b := 0) c0 (by omega) (by decide)
    have e1 : nb c - 1 = nb (c - 1) := nb_sub (b := 1) (by omega)
    have x0 : sg_e2 106 54 1 σ 0 0 = nb c := k0
    have x1 : sg_e2 106 54 1 σ 0 1 = nb s := k1
    obtain ⟨κ2, a1, a2, a3, a4, a5⟩ := hs_back hc (by omega) hs x0 x1
    obtain ⟨τ2, b1, b2⟩ := gd_undoL (τ := sg_up τ 0 1 (nb (c - 1))) (c := c - 1) (by omega) (nb_upE _ _ _ _) 79 0 1000 _ (by decide) (by decide) (fun p k => by rw [if_neg (by omega)])
    rw [if_neg cn, if_neg cn, a1, nb_bnd, nb_let, e1, nb_let]
    have o1 : ∀ p k, p = 0 ∨ (14 ≤ p ∧ p < 54) ∨ 160 ≤ p → sg_m2 54 106 1 13 σ κ2 p k = σ p k := fun p k hp => by rw [nb_m2, if_neg (by omega), if_neg (by omega)]
    have o2 : ∀ p k, p < 106 → sg_m2 54 106 1 13 σ κ2 (54 + p) k = κ2 p k := fun p k hp => by rw [nb_m2, if_pos (by omega), (by omega : 54 + p - 54 = p)]
    have o3 : ∀ p k, p < 13 → sg_m2 54 106 1 13 σ κ2 (1 + p) k = κ2 (106 + p) k := fun p k hp => by rw [nb_m2, if_neg (by omega), if_pos (by omega), (by omega : 1 + p - 1 = p)]
    have t2 : ∀ p k, p ≠ 1 → ¬ (p = 0 ∧ k = 1) → τ2 p k = τ p k := fun p k h1 h0 => by rw [b2, if_neg (by omega), nb_up, if_neg h0]
    obtain ⟨w2, q1, q2, q3⟩ := hrow (c - 1) (by omega)
    have es : (s + 8 - c + (c - 1)) % 8 = (s + 7) % 8 := by omega
    rw [es] at q1
    have hb : nb_R (sg_e1 (2 + 13 * ((s + 7) % 8)) (sg_e2 106 54 1 σ)) w2 := nb_Rx q1 q3.2.1 (fun _ _ => rfl) (fun p k hp _ _ => by
      show σ (54 + (2 + 13 * ((s + 7) % 8) + p)) k = sg_e2 106 54 1 σ (2 + 13 * ((s + 7) % 8) + p) k
      rw [nb_e2, if_pos (by omega)])
    have hn : nb_R (sg_e1 106 κ2) w2 := hr_R a4 hb q3.2.1
    have z : sg_m2 54 106 1 13 σ κ2 54 0 = nb (c - 1) := (o2 0 0 (by decide)).trans a2
    refine ⟨nb (c - 1), sg_m2 54 106 1 13 σ κ2, τ2, by rw [z], b1, gx_mk hA0 (Nat.le_refl m) ⟨w2, nb_Rx hn q3.2.1 (fun _ _ => rfl) (fun p k hp _ _ => (o3 p k hp).symm), fun k hk => ?_, q3⟩ (gq_Wx hW (fun k => o1 _ _ (by omega)) (fun k h2 h5 => t2 _ _ (by decide) (by omega))) ⟨c - 1, (s + 7) % 8, by omega, by omega, (o2 0 0 (by decide)).trans a2, (o2 0 1 (by decide)).trans a3, ?_, fun i hi => ?_⟩ ⟨o1 _ _ (by omega), o1 _ _ (by omega)⟩ (fun p k _ _ => o1 _ _ (by omega)) ⟨t2 _ _ (by decide) (by omega), t2 _ _ (by decide) (by omega)⟩ (fun k _ => t2 _ _ (by decide) (by omega)) (fun k => t2 _ _ (by decide) (by omega)), fun p k hp => o1 _ _ (by omega), fun p k hp _ => t2 _ _ (by omega) (by omega), t2 _ _ (by decide) (by omega), t2 _ _ (by decide) (by omega)⟩
    · rw [b2, if_pos ⟨rfl, hk⟩, nb_up, if_neg (by omega)]
      exact q2 k hk
    · rw [b2, if_neg (by omega), nb_upE]
    · obtain ⟨w3, p1, p2, p3⟩ := hrow i (by omega)
      have ei : ((s + 7) % 8 + 8 - (c - 1) + i) % 8 = (s + 8 - c + i) % 8 := by omega
      rw [ei]
      refine ⟨w3, nb_Rx p1 p3.2.1 (fun _ _ => rfl) (fun p k hp _ _ => ?_), fun k hk => ?_, p3⟩
      · show σ (54 + (2 + 13 * ((s + 8 - c + i) % 8) + p)) k = sg_m2 54 106 1 13 σ κ2 (54 + (2 + 13 * ((s + 8 - c + i) % 8) + p)) k
        rw [o2 _ _ (by omega), a5 _ _ (by omega) (by omega), nb_e2, if_pos (by omega)]
      · rw [t2 _ _ (by decide) (by omega)]
        exact p2 k hk
theorem gd_save {m : Nat} {σ τ : sg_S} (hA : gx_A m σ τ) : ∃ r σ2 τ2, f_X7_save σ = some (r, σ2) ∧ f_X8_save τ = some (r, τ2) ∧ gx_A m σ2 τ2 ∧ gx_U σ τ σ2 τ2 := by
  obtain ⟨⟨w, r1, r2, r3⟩, hW, h6, hH, hS, hf⟩ := hA
  obtain ⟨τc, e1, a1, b1⟩ := hr_cp (σ := σ) (o := 41) (o2 := 1) (by omega)
  obtain ⟨τd, e2, b2⟩ := hr_ly (τ := τ) (a := 3) (b := 1) (by decide)
  unfold f_X7_save f_X8_save
  rw [e1, nb_bnd, nb_let, nb_let, e2, nb_bnd, nb_let, nb_let]
  generalize sg_m2 41 13 1 13 σ τc = σ3 at a1 b1
  generalize sg_m2 3 1 1 1 τ τd = τ3 at b2
  have o1 : ∀ p k, ¬ (41 ≤ p ∧ p < 54) → ¬ (p = 0 ∧ k = 4) → sg_up σ3 0 4 1 p k = σ p k := fun p k hp h0 => by rw [nb_up, if_neg h0, b1 p k (by omega)]
  have t1 : ∀ p k, ¬ (p = 3 ∧ k < 79) → ¬ (p = 0 ∧ k = 7) → sg_up τ3 0 7 1 p k = τ p k := fun p k hp h0 => by rw [nb_up, if_neg h0, b2, if_neg hp]
  refine ⟨nb (w 0), sg_up σ3 0 4 1, sg_up τ3 0 7 1, ?_, ?_, ⟨⟨w, nb_Rx r1 r3.2.1 (fun _ _ => rfl) (fun p k hp _ _ => (o1 _ _ (by omega) (by omega)).symm), fun k hk => ?_, r3⟩, gq_Wx hW (fun k => o1 _ _ (by omega) (by omega)) (fun k h2 h5 => t1 _ _ (by omega) (by omega)), fun k hk => (t1 _ _ (by omega) (by omega)).trans (h6 k hk), hh_x hH (fun p k hp => o1 _ _ (by omega) (by omega)) (t1 _ _ (by omega) (by omega)) (fun k => t1 _ _ (by omega) (by omega)), Or.inr ⟨nb_upE _ _ _ _, nb_upE _ _ _ _, w, hr_R (fun p k hk => ?_) r1 r3.2.1, fun k hk => ?_, r3⟩, ?_⟩, fun p k hp => o1 _ _ (by omega) (by omega), fun p k hp _ => t1 _ _ (by omega) (by omega), t1 _ _ (by omega) (by omega), t1 _ _ (by omega) (by omega)⟩
  · rw [o1 _ _ (by omega) (by omega), show σ 1 0 = nb (w 0) from nb_g0 r1.1]
  · rw [t1 _ _ (by omega) (by omega), r2 0 (by decide)]
  · rw [t1 _ _ (by omega) (by omega)]
    exact r2 k hk
  · rw [← a1 p k hk]
    have hp : p < 13 := by
      unfold hr_k at hk
      omega
    show sg_up σ3 0 4 1 (41 + p) k = σ3 (41 + p) k
    rw [nb_up, if_neg (by omega)]
  · rw [nb_up, if_neg (by omega), b2, if_pos ⟨rfl, hk⟩]
    exact r2 k hk
  · rw [o1 _ _ (by omega) (by omega), t1 _ _ (by omega) (by omega)]
    exact hf
theorem gd_restore {m : Nat} {σ τ : sg_S} (hA : gx_A m σ τ) : ∃ r σ2 τ2, f_X7_restore σ = some (r, σ2) ∧ f_X8_restore τ = some (r, τ2) ∧ gx_A m σ2 τ2 ∧ gx_U σ τ σ2 τ2 := by
  have hA0 := hA
  obtain ⟨⟨w, r1, r2, r3⟩, hW, h6, hH, hS, hf⟩ := hA
  unfold f_X7_restore f_X8_restore
  rcases hS with ⟨z1, z2⟩ | ⟨z1, z2, ws, q1, q2, q3⟩
  · rw [z1, z2, if_pos rfl, if_pos rfl]
    exact ⟨-3, σ, τ, rfl, rfl, hA0, fun _ _ _ => rfl, fun _ _ _ _ => rfl, rfl, rfl⟩
  · obtain ⟨τc, e1, a1, b1⟩ := hr_cp (σ := σ) (o := 1) (o2 := 41) (by omega)
    obtain ⟨τd, e2, b2⟩ := hr_ly (τ := τ) (a := 1) (b := 3) (by decide)
    rw [z1, z2, if_neg nb_10, if_neg nb_10, e1, nb_bnd, nb_let, nb_let, e2, nb_bnd, nb_let, nb_let]
    generalize sg_m2 1 13 41 13 σ τc = σ3 at a1 b1
    generalize sg_m2 1 1 3 1 τ τd = τ3 at b2
    obtain ⟨c, s, hc, hs, k0, k1, t1, hrow⟩ := hH
    have o1 : ∀ p k, ¬ (1 ≤ p ∧ p < 14) → ¬ (p = 54 ∧ k = 0) → sg_up σ3 54 0 0 p k = σ p k := fun p k hp h0 => by rw [nb_up, if_neg h0, b1 p k (by omega)]
    have u1 : ∀ p k, ¬ (p = 1 ∧ k < 79) → ¬ (p = 0 ∧ k = 1) → sg_up τ3 0 1 0 p k = τ p k := fun p k hp h0 => by rw [nb_up, if_neg h0, b2, if_neg hp]
    have hR2 : nb_R (sg_e1 1 (sg_up σ3 54 0 0)) ws := hr_R (ρ := sg_e1 41 σ) (fun p k hk => by
      rw [← a1 p k hk]
      have hp : p < 13 := by
        unfold hr_k at hk
        omega
      show sg_up σ3 54 0 0 (1 + p) k = σ3 (1 + p) k
      rw [nb_up, if_neg (by omega)]) q1 q3.2.1
    have hV2 : nb_V (sg_up τ3 0 1 0 1) ws := fun k hk => by
      rw [nb_up, if_neg (by omega), b2, if_pos ⟨rfl, hk⟩]
      exact q2 k hk
    refine ⟨nb (ws 0), sg_up σ3 54 0 0, sg_up τ3 0 1 0, ?_, ?_, gx_mk hA0 (Nat.le_refl m) ⟨ws, hR2, hV2, q3⟩ (gq_Wx hW (fun k => o1 _ _ (by omega) (by omega)) (fun k h2 h5 => u1 _ _ (by omega) (by omega))) ⟨0, s, by decide, hs, nb_upE _ _ _ _, ?_, nb_upE _ _ _ _, fun i hi => absurd hi (Nat.not_lt_zero i)⟩ ⟨o1 _ _ (by omega) (by omega), o1 _ _ (by omega) (by omega)⟩ (fun p k h1 h2 => o1 _ _ (by omega) (by omega)) ⟨u1 _ _ (by omega) (by omega), u1 _ _ (by omega) (by omega)⟩ (fun k _ => u1 _ _ (by omega) (by omega)) (fun k => u1 _ _ (by omega) (by omega)), fun p k hp => o1 _ _ (by omega) (by omega), fun p k hp _ => u1 _ _ (by omega) (by omega), u1 _ _ (by omega) (by omega), u1 _ _ (by omega) (by omega)⟩
    · rw [show sg_up σ3 54 0 0 1 0 = nb (ws 0) from nb_g0 hR2.1]
    · rw [hV2 0 (by decide)]
    · exact (o1 54 1 (by omega) (by omega)).trans k1
