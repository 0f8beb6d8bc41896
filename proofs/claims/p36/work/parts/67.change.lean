/-! THE MINISTRY: what both hold between calls: realm, reasons, history, what is saved, the fault position -/
def gx_S (m : Nat) (σ τ : sg_S) : Prop := (σ 0 4 = 0 ∧ τ 0 7 = 0) ∨ (σ 0 4 = 1 ∧ τ 0 7 = 1 ∧ ∃ w, nb_R (sg_e1 41 σ) w ∧ nb_V (τ 3) w ∧ gi_I m w)
def gx_A (m : Nat) (σ τ : sg_S) : Prop := (∃ w, nb_R (sg_e1 1 σ) w ∧ nb_V (τ 1) w ∧ gi_I m w) ∧ gq_W σ τ ∧ (∀ k, k < 12 → τ 6 k = sg_sun k) ∧ hh_H m (sg_e1 54 σ) τ ∧ gx_S m σ τ ∧ σ 0 9 = (if τ 0 6 < 0 then -3 else τ 0 6)
/-- what a command leaves alone: input and line -/
def gx_U (σ τ σ2 τ2 : sg_S) : Prop := (∀ p k, 160 ≤ p → σ2 p k = σ p k) ∧ (∀ p k, 8 ≤ p → p ≠ 10 → τ2 p k = τ p k) ∧ (τ2 0 21 = τ 0 21 ∧ τ2 0 24 = τ 0 24)
theorem hh_x {m : Nat} {κ κ2 τ τ2 : sg_S} (h : hh_H m κ τ) (hk : ∀ p k, p < 106 → κ2 p k = κ p k) (h1 : τ2 0 1 = τ 0 1) (h5 : ∀ k, τ2 5 k = τ 5 k) : hh_H m κ2 τ2 := by
  obtain ⟨c, s, a, b, d, e, f, g⟩ := h
  refine ⟨c, s, a, b, (hk 0 0 (by decide)).trans d, (hk 0 1 (by decide)).trans e, h1.trans f, fun i hi => ?_⟩
  obtain ⟨w, r1, r2, r3⟩ := g i hi
  refine ⟨w, nb_Rx r1 r3.2.1 (fun _ _ => rfl) (fun p k hp _ _ => (hk _ _ (by omega)).symm), fun k hk => ?_, r3⟩
  rw [h5]
  exact r2 k hk
theorem hh_mono {m m2 : Nat} {κ τ : sg_S} (h : hh_H m κ τ) (hm : m ≤ m2) : hh_H m2 κ τ := by
  obtain ⟨c, s, a, b, d, e, f, g⟩ := h
  refine ⟨c, s, a, b, d, e, f, fun i hi => ?_⟩
  obtain ⟨w, r1, r2, r3⟩ := g i hi
  exact ⟨w, r1, r2, gi_mono r3 hm⟩
theorem gx_mk {m m2 : Nat} {σ τ σ2 τ2 : sg_S} (h : gx_A m σ τ) (hm : m ≤ m2) (hr : ∃ w, nb_R (sg_e1 1 σ2) w ∧ nb_V (τ2 1) w ∧ gi_I m2 w) (hW : gq_W σ2 τ2) (hH : hh_H m2 (sg_e1 54 σ2) τ2) (c0 : σ2 0 4 = σ 0 4 ∧ σ2 0 9 = σ 0 9) (c41 : ∀ p k, 41 ≤ p → p < 54 → σ2 p k = σ p k) (t0 : τ2 0 6 = τ 0 6 ∧ τ2 0 7 = τ 0 7) (t3 : ∀ k, k < 79 → τ2 3 k = τ 3 k) (t6 : ∀ k, τ2 6 k = τ 6 k) : gx_A m2 σ2 τ2 := by
  obtain ⟨_, _, h6, _, hS, hf⟩ := h
  refine ⟨hr, hW, fun k hk => (t6 k).trans (h6 k hk), hH, ?_, ?_⟩
  · rcases hS with ⟨a, b⟩ | ⟨a, b, w, r1, r2, r3⟩
    · exact Or.inl ⟨c0.1.trans a, t0.2.trans b⟩
    · refine Or.inr ⟨c0.1.trans a, t0.2.trans b, w, nb_Rx r1 r3.2.1 (fun _ _ => rfl) (fun p k hp _ _ => (c41 _ _ (by omega) (by omega)).symm), fun k hk => ?_, gi_mono r3 hm⟩
      rw [t3 k hk]
      exact r2 k hk
  · rw [c0.2, t0.1]
    exact hf
theorem gx_mono {m m2 : Nat} {σ τ : sg_S} (h : gx_A m σ τ) (hm : m ≤ m2) : gx_A m2 σ τ := by
  have h0 := h
  obtain ⟨⟨w, r1, r2, r3⟩, hW, h6, hH, hS, hf⟩ := h0
  exact gx_mk h hm ⟨w, r1, r2, gi_mono r3 hm⟩ hW (hh_mono hH hm) ⟨rfl, rfl⟩ (fun _ _ _ _ => rfl) ⟨rfl, rfl⟩ (fun _ _ => rfl) (fun _ => rfl)
/-- what reading calls may touch -/
def gx_f1 (σ σ2 : sg_S) : Prop := ∀ p k, p ≠ 8 → (p < 15 ∨ 41 ≤ p) → σ2 p k = σ p k
def gx_f2 (τ τ2 : sg_S) : Prop := ∀ p k, p ≠ 2 → p ≠ 4 → p ≠ 7 → p ≠ 10 → (p = 1 → k < 79) → (p = 0 → (1 ≤ k ∧ k ≤ 7) ∨ k = 21 ∨ k = 24) → τ2 p k = τ p k
theorem gq_Wx {σ τ σ2 τ2 : sg_S} (h : gq_W σ τ) (h1 : ∀ k, σ2 14 k = σ 14 k) (h2 : ∀ k, 2 ≤ k → k ≤ 5 → τ2 0 k = τ 0 k) : gq_W σ2 τ2 := by
  obtain ⟨a, b, c, d⟩ := h
  refine ⟨?_, ?_, ?_, ?_⟩
  · rw [h1, h2 2 (by omega) (by omega)]
    exact a
  · rw [h1, h2 3 (by omega) (by omega)]
    exact b
  · rw [h1, h2 4 (by omega) (by omega)]
    exact c
  · rw [h1, h2 4 (by omega) (by omega), h2 5 (by omega) (by omega)]
    exact d
theorem gx_x {m : Nat} {σ τ σ2 τ2 : sg_S} (h : gx_A m σ τ) (h1 : gx_f1 σ σ2) (h2 : gx_f2 τ τ2) : gx_A m σ2 τ2 := by
  have h0 := h
  obtain ⟨⟨w, r1, r2, r3⟩, hW, h6, hH, hS, hf⟩ := h0
  refine gx_mk h (Nat.le_refl m) ⟨w, nb_Rx r1 r3.2.1 (fun _ _ => rfl) (fun p k hp _ h7 => (h1 _ _ (by omega) (by omega)).symm), fun k hk => ?_, r3⟩ (gq_Wx hW (fun k => h1 _ _ (by decide) (by decide)) (fun k h3 h5 => h2 _ _ (by decide) (by decide) (by decide) (by decide) (by omega) (by omega))) (hh_x hH (fun p k hp => h1 _ _ (by omega) (by omega)) (h2 _ _ (by decide) (by decide) (by decide) (by decide) (by omega) (by omega)) (fun k => h2 _ _ (by decide) (by decide) (by decide) (by decide) (by omega) (by omega))) ⟨h1 _ _ (by decide) (by decide), h1 _ _ (by decide) (by decide)⟩ (fun p k _ _ => h1 _ _ (by omega) (by omega)) ⟨h2 _ _ (by decide) (by decide) (by decide) (by decide) (by omega) (by omega), h2 _ _ (by decide) (by decide) (by decide) (by decide) (by omega) (by omega)⟩ (fun k _ => h2 _ _ (by decide) (by decide) (by decide) (by decide) (by omega) (by omega)) (fun k => h2 _ _ (by decide) (by decide) (by decide) (by decide) (by omega) (by omega))
  rw [h2 1 k (by decide) (by decide) (by decide) (by decide) (fun _ => hk) (by omega)]
  exact r2 k hk
/-- a command done, and kept in the history, or refused -/
theorem gx_change {m : Nat} {σ τ : sg_S} (hA : gx_A m σ τ) (hm : m < 9000) {kd x y z : Int32} {g : sg_S → Option (Int32 × sg_S)} (hdo : ∀ (w : Nat → Nat) (σ τ : sg_S), gq_H m w σ τ → gq_A m w σ τ (f_X7_perform kd x y z σ) (g τ)) : ∃ r σ2 τ2, f_X7_change kd x y z σ = some (r, σ2) ∧ sg_bnd (f_X8_begins τ) (fun τ1 => sg_bnd2 (g τ1) (fun r5 τ3 => sg_bnd2 (f_X8_ends r5 τ3) (fun r8 τ6 => some (r8, τ6)))) = some (r, τ2) ∧ gx_A (m + 1) σ2 τ2 ∧ gx_U σ τ σ2 τ2 := by
  have hA0 := hA
  obtain ⟨⟨w, r1, r2, r3⟩, hW, h6, hH, hS, hf⟩ := hA
  obtain ⟨τc, ec, ac, bc⟩ := hr_cp (σ := σ) (o := 15) (o2 := 1) (by omega)
  obtain ⟨τb, eb, b0, b2, bo⟩ := hs_begins τ
  unfold f_X7_change
  rw [ec, nb_bnd, nb_let, eb, nb_bnd]
  generalize sg_m2 15 13 1 13 σ τc = σ3 at ac bc
  have hV3 : nb_V (τb 1) w := fun k hk => (bo 1 k (by decide) (by omega)).trans (r2 k hk)
  have hR3 : nb_R (sg_e1 1 σ3) w := nb_Rx r1 r3.2.1 (fun _ _ => rfl) (fun p k hp _ _ => (bc _ _ (by omega)).symm)
  have hW3 : gq_W σ3 τb := gq_Wx hW (fun k => bc _ _ (by omega)) (fun k h2 h5 => bo _ _ (by decide) (by omega))
  obtain ⟨r, σ4, τ4, e1, e2, hW4, hC4, hF4, hO⟩ := hdo w σ3 τb ⟨hR3, hV3, r3, hW3, b0, hm, fun k hk => (bo 6 k (by decide) (by omega)).trans (h6 k hk)⟩
  rw [e1, nb_bnd2, nb_let, e2, nb_bnd2]
  have e4 : sg_m1 0 15 σ3 σ4 = σ4 := by
    funext p k
    rw [nb_m1]
    by_cases c : 0 ≤ p ∧ p < 0 + 15
    · rw [if_pos c, Nat.sub_zero]
    · rw [if_neg c, hC4 p (by omega)]
  rw [e4]
  have c4 : ∀ p k, 28 ≤ p → σ4 p k = σ p k := fun p k hp => by rw [hC4 p (by omega), bc _ _ (by omega)]
  have c40 : ∀ k, σ4 0 k = σ 0 k := fun k => by rw [hC4 0 (by omega), bc _ _ (by omega)]
  have f4 : ∀ p k, p ≠ 1 → p ≠ 2 → p ≠ 7 → (p = 0 → k = 1 ∨ (5 ≤ k ∧ k ≠ 15)) → τ4 p k = τ p k := fun p k h1 h2 h7 h0 => by rw [hF4 p k h1 h7 h0, bo p k h2 (by omega)]
  rcases hO with ⟨n, w2, er, hn, z0, hR4, hV4, hI4⟩ | ⟨er, z0, _, hR4, hV4⟩
  · subst er
    rw [if_pos (nb_0le (by omega))]
    have hHk : hh_H m (sg_e2 106 54 15 σ4) τ4 := hh_x hH (fun p k hp => by
      rw [nb_e2, if_pos hp]
      exact c4 (54 + p) k (by omega)) (f4 0 1 (by decide) (by decide) (by decide) (by omega)) (fun k => f4 5 k (by decide) (by decide) (by decide) (by omega))
    obtain ⟨c, s, hc, hs, k0, k1, t1, hrow⟩ := hHk
    obtain ⟨κ2, a1, a2, a3, a4, a5⟩ := hs_keep hc hs k0 k1
    obtain ⟨τ5, d1, d2, d3, d4, d5⟩ := hs_ends (x := nb n) hc z0 t1
    rw [a1, nb_bnd, nb_let, d1, nb_bnd2]
    have hw : nb_R (sg_e1 106 (sg_e2 106 54 15 σ4)) w := by
      refine nb_Rx (hr_R ac r1 r3.2.1) r3.2.1 (fun _ _ => rfl) (fun p k hp _ _ => ?_)
      show σ3 (15 + p) k = sg_e2 106 54 15 σ4 (106 + p) k
      rw [nb_e2, if_neg (by omega), (by omega : 106 + p - 106 = p), hC4 (15 + p) (by omega)]
    have hnew : nb_R (sg_e1 (2 + 13 * s) κ2) w := hr_R a4 hw r3.2.1
    have hk2 : hh_H (m + 1) κ2 τ5 := hh_keep (m := m) (Nat.le_succ m) hc hs hrow r3 a2 a3 hnew a5 d2 (fun k hk => by
      rw [d3 k hk, hF4 2 k (by decide) (by decide) (by omega), b2 k hk]
      exact r2 k hk) d4
    have o1 : ∀ p k, p < 15 ∨ (28 ≤ p ∧ p < 54) ∨ 160 ≤ p → sg_m2 54 106 15 13 σ4 κ2 p k = σ4 p k := fun p k hp => by rw [nb_m2, if_neg (by omega), if_neg (by omega)]
    refine ⟨nb n, _, τ5, rfl, rfl, gx_mk hA0 (Nat.le_succ m) ⟨w2, nb_Rx hR4 hI4.2.1 (fun _ _ => rfl) (fun p k hp _ _ => (o1 _ _ (by omega)).symm), fun k hk => ?_, hI4⟩ (gq_Wx hW4 (fun k => o1 _ _ (by omega)) (fun k h2 h5 => d5 _ _ (by decide) (by omega))) (hh_x hk2 (fun p k hp => ?_) rfl (fun _ => rfl)) ⟨?_, ?_⟩ (fun p k h1 h2 => ?_) ⟨?_, ?_⟩ (fun k _ => ?_) (fun k => ?_), fun p k hp => ?_, fun p k hp _ => ?_, ?_, ?_⟩
    · rw [d5 1 k (by decide) (by omega)]
      exact hV4 k hk
    · show sg_m2 54 106 15 13 σ4 κ2 (54 + p) k = κ2 p k
      rw [nb_m2, if_pos (by omega), (by omega : 54 + p - 54 = p)]
    · rw [o1 _ _ (by omega), c40]
    · rw [o1 _ _ (by omega), c40]
    · rw [o1 _ _ (by omega), c4 _ _ (by omega)]
    · rw [d5 _ _ (by decide) (by omega), f4 _ _ (by decide) (by decide) (by decide) (by omega)]
    · rw [d5 _ _ (by decide) (by omega), f4 _ _ (by decide) (by decide) (by decide) (by omega)]
    · rw [d5 _ _ (by decide) (by omega), f4 _ _ (by decide) (by decide) (by decide) (by omega)]
    · rw [d5 _ _ (by decide) (by omega), f4 _ _ (by decide) (by decide) (by decide) (by omega)]
    · rw [o1 _ _ (by omega), c4 _ _ (by omega)]
    · rw [d5 _ _ (by omega) (by omega), f4 _ _ (by omega) (by omega) (by omega) (by omega)]
    · rw [d5 _ _ (by decide) (by omega), f4 _ _ (by decide) (by decide) (by decide) (by omega)]
    · rw [d5 _ _ (by decide) (by omega), f4 _ _ (by decide) (by decide) (by decide) (by omega)]
  · have hr0 : r ≠ 0 ∧ ¬ (0 : Int32) ≤ r := by rcases er with e | e | e <;> rw [e] <;> decide
    rw [if_neg hr0.2]
    obtain ⟨τ5, d1, d2⟩ := hs_endf (x := r) z0 hr0.1
    rw [d1, nb_bnd2]
    refine ⟨r, σ4, τ5, rfl, rfl, gx_mk hA0 (Nat.le_succ m) ⟨w, hR4, fun k hk => ?_, gi_mono r3 (Nat.le_succ m)⟩ (gq_Wx hW4 (fun _ => rfl) (fun k h2 h5 => by rw [d2, if_neg (by omega)])) (hh_mono (hh_x hH (fun p k hp => c4 _ _ (by omega)) ?_ (fun k => ?_)) (Nat.le_succ m)) ⟨c40 4, c40 9⟩ (fun p k h1 h2 => c4 _ _ (by omega)) ⟨?_, ?_⟩ (fun k _ => ?_) (fun k => ?_), fun p k hp => c4 _ _ (by omega), fun p k hp _ => ?_, ?_, ?_⟩
    · rw [d2, if_pos ⟨rfl, hk⟩, hF4 2 k (by decide) (by decide) (by omega), b2 k hk]
      exact r2 k hk
    · rw [d2, if_neg (by omega), f4 _ _ (by decide) (by decide) (by decide) (by omega)]
    · rw [d2, if_neg (by omega), f4 _ _ (by decide) (by decide) (by decide) (by omega)]
    · rw [d2, if_neg (by omega), f4 _ _ (by decide) (by decide) (by decide) (by omega)]
    · rw [d2, if_neg (by omega), f4 _ _ (by decide) (by decide) (by decide) (by omega)]
    · rw [d2, if_neg (by omega), f4 _ _ (by decide) (by decide) (by decide) (by omega)]
    · rw [d2, if_neg (by omega), f4 _ _ (by decide) (by decide) (by decide) (by omega)]
    · rw [d2, if_neg (by omega), f4 _ _ (by omega) (by omega) (by omega) (by omega)]
    · rw [d2, if_neg (by omega), f4 _ _ (by decide) (by decide) (by decide) (by omega)]
    · rw [d2, if_neg (by omega), f4 _ _ (by decide) (by decide) (by decide) (by omega)]
