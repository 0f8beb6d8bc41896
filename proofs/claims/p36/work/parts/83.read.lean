/-! READ -/
theorem gx_x2 {m : Nat} {σ τ σ2 τ2 : sg_S} (h : gx_A m σ τ) (h1 : ∀ p k, p ≠ 8 → (p < 15 ∨ (41 ≤ p ∧ p < 160)) → σ2 p k = σ p k) (h2 : ∀ q k, ((q = 0 ∧ 1 ≤ k ∧ k ≤ 7) ∨ (q = 1 ∧ k < 79) ∨ q = 3 ∨ q = 5 ∨ q = 6) → τ2 q k = τ q k) : gx_A m σ2 τ2 := by
  have h0 := h
  obtain ⟨⟨w, r1, r2, r3⟩, hW, h6, hH, hS, hf⟩ := h0
  refine gx_mk h (Nat.le_refl m) ⟨w, nb_Rx r1 r3.2.1 (fun _ _ => rfl) (fun p k hp _ h7 => (h1 _ _ (by omega) (by omega)).symm), fun k hk => ?_, r3⟩ (gq_Wx hW (fun k => h1 _ _ (by decide) (by decide)) (fun k h3 h5 => h2 _ _ (by omega))) (hh_x hH (fun p k hp => h1 _ _ (by omega) (by omega)) (h2 _ _ (by omega)) (fun k => h2 _ _ (by omega))) ⟨h1 _ _ (by decide) (by decide), h1 _ _ (by decide) (by decide)⟩ (fun p k _ _ => h1 _ _ (by omega) (by omega)) ⟨h2 _ _ (by omega), h2 _ _ (by omega)⟩ (fun k _ => h2 _ _ (by omega)) (fun k => h2 _ _ (by omega))
  rw [h2 1 k (by omega)]
  exact r2 k hk
theorem gx_flt {m : Nat} {σ τ : sg_S} {v : Int32} (h : gx_A m σ τ) (hv : ¬ v < 0) : gx_A m (sg_up σ 0 9 v) (sg_up τ 0 6 v) := by
  obtain ⟨⟨w, r1, r2, r3⟩, hW, h6, hH, hS, hf⟩ := h
  have c1 : ∀ p k, ¬ (p = 0 ∧ k = 9) → sg_up σ 0 9 v p k = σ p k := fun p k hp => by rw [nb_up, if_neg hp]
  have t1 : ∀ p k, ¬ (p = 0 ∧ k = 6) → sg_up τ 0 6 v p k = τ p k := fun p k hp => by rw [nb_up, if_neg hp]
  refine ⟨⟨w, nb_Rx r1 r3.2.1 (fun _ _ => rfl) (fun p k hp _ h7 => (c1 _ _ (by omega)).symm), fun k hk => (t1 _ _ (by omega)).trans (r2 k hk), r3⟩, gq_Wx hW (fun k => c1 _ _ (by omega)) (fun k h3 h5 => t1 _ _ (by omega)), fun k hk => (t1 _ _ (by omega)).trans (h6 k hk), hh_x hH (fun p k hp => c1 _ _ (by omega)) (t1 _ _ (by omega)) (fun k => t1 _ _ (by omega)), ?_, ?_⟩
  · rcases hS with ⟨a, b⟩ | ⟨a, b, w2, q1, q2, q3⟩
    · exact Or.inl ⟨(c1 _ _ (by omega)).trans a, (t1 _ _ (by omega)).trans b⟩
    · exact Or.inr ⟨(c1 _ _ (by omega)).trans a, (t1 _ _ (by omega)).trans b, w2, nb_Rx q1 q3.2.1 (fun _ _ => rfl) (fun p k hp _ h7 => (c1 _ _ (by omega)).symm), fun k hk => (t1 _ _ (by omega)).trans (q2 k hk), q3⟩
  · rw [nb_upE, nb_upE, if_neg hv]
/-- what is kept after the changes of a text -/
theorem gx_keep {m m2 : Nat} {σ τ σ4 τ4 : sg_S} {w w2 : Nat → Nat} {x : Int32} (hA : gx_A m σ τ) (hm : m ≤ m2) (r3 : gi_I m w) (hB : nb_R (sg_e1 15 σ4) w) (hW4 : gq_W σ4 τ4) (z0 : τ4 0 0 = 0) (hR4 : nb_R (sg_e1 1 σ4) w2) (hV4 : nb_V (τ4 1) w2) (hI4 : gi_I m2 w2) (b2 : ∀ k, k < 79 → τ4 2 k = nb (w k)) (c4 : ∀ p k, 41 ≤ p → p < 160 → σ4 p k = σ p k) (c40 : ∀ k, σ4 0 k = σ 0 k) (f0 : ∀ k, k = 1 ∨ k = 6 ∨ k = 7 → τ4 0 k = τ 0 k) (f3 : ∀ q k, q = 3 ∨ q = 5 ∨ q = 6 → τ4 q k = τ q k) : ∃ σ5 τ5, pz_A σ4 = some (σ5 160 2, σ5) ∧ f_X8_ends x τ4 = some (x, τ5) ∧ gx_A m2 σ5 τ5 ∧ (∀ p k, 160 ≤ p → σ5 p k = σ4 p k) ∧ (∀ q k, q ≠ 5 → ¬ (q = 0 ∧ k = 1) → τ5 q k = τ4 q k) := by
  have hA0 := hA
  obtain ⟨⟨w0, r10, r20, r30⟩, hW, h6, hH, hS, hf⟩ := hA
  have hHk : hh_H m (sg_e2 106 54 15 σ4) τ4 := hh_x hH (fun p k hp => by
    rw [nb_e2, if_pos hp]
    exact c4 (54 + p) k (by omega) (by omega)) (f0 1 (by omega)) (fun k => f3 5 k (by omega))
  obtain ⟨c, s, hc, hs, k0, k1, t1, hrow⟩ := hHk
  obtain ⟨κ2, a1, a2, a3, a4, a5⟩ := hs_keep hc hs k0 k1
  obtain ⟨τ5, d1, d2, d3, d4, d5⟩ := hs_ends (x := x) hc z0 t1
  have hw : nb_R (sg_e1 106 (sg_e2 106 54 15 σ4)) w := by
    refine nb_Rx hB r3.2.1 (fun _ _ => rfl) (fun p k hp _ _ => ?_)
    show σ4 (15 + p) k = sg_e2 106 54 15 σ4 (106 + p) k
    rw [nb_e2, if_neg (by omega), (by omega : 106 + p - 106 = p)]
  have hnew : nb_R (sg_e1 (2 + 13 * s) κ2) w := hr_R a4 hw r3.2.1
  have hk2 : hh_H m2 κ2 τ5 := hh_keep (m := m) hm hc hs hrow r3 a2 a3 hnew a5 d2 (fun k hk => by
    rw [d3 k hk]
    exact b2 k hk) d4
  have o1 : ∀ p k, p < 15 ∨ (28 ≤ p ∧ p < 54) ∨ 160 ≤ p → sg_m2 54 106 15 13 σ4 κ2 p k = σ4 p k := fun p k hp => by rw [nb_m2, if_neg (by omega), if_neg (by omega)]
  refine ⟨sg_m2 54 106 15 13 σ4 κ2, τ5, ?_, d1, gx_mk hA0 hm ⟨w2, nb_Rx hR4 hI4.2.1 (fun _ _ => rfl) (fun p k hp _ _ => (o1 _ _ (by omega)).symm), fun k hk => ?_, hI4⟩ (gq_Wx hW4 (fun k => o1 _ _ (by omega)) (fun k h2 h5 => d5 _ _ (by decide) (by omega))) (hh_x hk2 (fun p k hp => ?_) rfl (fun _ => rfl)) ⟨?_, ?_⟩ (fun p k h1 h2 => ?_) ⟨?_, ?_⟩ (fun k _ => ?_) (fun k => ?_), fun p k hp => o1 _ _ (by omega), d5⟩
  · unfold pz_A
    rw [a1, nb_bnd, nb_let]
  · rw [d5 1 k (by decide) (by omega)]
    exact hV4 k hk
  · show sg_m2 54 106 15 13 σ4 κ2 (54 + p) k = κ2 p k
    rw [nb_m2, if_pos (by omega), (by omega : 54 + p - 54 = p)]
  · rw [o1 _ _ (by omega), c40]
  · rw [o1 _ _ (by omega), c40]
  · rw [o1 _ _ (by omega), c4 _ _ h1 (by omega)]
  · rw [d5 _ _ (by decide) (by omega), f0 6 (by omega)]
  · rw [d5 _ _ (by decide) (by omega), f0 7 (by omega)]
  · rw [d5 _ _ (by decide) (by omega), f3 3 k (by omega)]
  · rw [d5 _ _ (by decide) (by omega), f3 6 k (by omega)]
theorem gx_kc (κ : sg_S) (x : Int32) {b : Nat} (hb : b ≤ 1) : ∃ κ2, f_X4_keepOfCommand x (nb b) κ = some (-5, κ2) ∧ κ2 0 0 = 9 ∧ κ2 0 1 = x ∧ κ2 0 2 = (if b = 0 then 0 else κ 0 0) ∧ (b ≠ 0 → κ2 0 3 = κ 0 1) := by
  rcases (by omega : b = 0 ∨ b = 1) with rfl | rfl
  · exact ⟨_, rfl, rfl, rfl, rfl, fun h => absurd rfl h⟩
  · exact ⟨_, rfl, rfl, rfl, rfl, fun _ => rfl⟩
theorem pz_Dy {f : Nat → Nat} {n : Nat} {κ κ2 : sg_S} (h3 : ∀ k, k < 12 → κ2 3 k = κ 3 k) (h5 : ∀ t j, t < 12 → κ2 (5 + t) j = κ (5 + t) j) : ∀ (L : List Nat) (i p : Nat), i + L.length ≤ 12 → pw_D f n κ i L p → pw_D f n κ2 i L p := by
  intro L
  induction L with
  | nil =>
    intro i p _ _
    trivial
  | cons k L ih =>
    intro i p hl h
    have hl' : i + (L.length + 1) ≤ 12 := hl
    obtain ⟨a, ⟨s, b⟩, c⟩ := h
    exact ⟨(h3 i (by omega)).trans a, ⟨s, fun t ht => (h5 i t (by omega)).trans (b t ht)⟩, ih (i + 1) _ (by omega) c⟩
def pr_C (τ : sg_S) : Prop := (∀ k, k < 43 → τ 11 k = nb (pr_l k)) ∧ ∀ k, k < 9 → τ 12 k = nb (pr_a k)
def pr_R (m : Nat) (σ τ : sg_S) (o o2 : Option (Int32 × sg_S)) : Prop := ∃ r σ2 τ2, o = some (r, σ2) ∧ o2 = some (r, τ2) ∧ gx_A (m + 12) σ2 τ2 ∧ gx_T σ2 τ2 ∧ (∀ p k, 177 ≤ p → σ2 p k = σ p k) ∧ (∀ k, τ2 9 k = τ 9 k) ∧ τ2 0 24 = τ 0 24 ∧ ∀ q k, q = 11 ∨ q = 12 → τ2 q k = τ q k
/-- a refused command of a text: in both -/
theorem pr_B {m : Nat} {σ τ σF τF : sg_S} {w : Nat → Nat} {t : Nat} {r : Int32} (hA : gx_A m σ τ) (r3 : gi_I m w) (ht : t < 1000) (hr : r = -1 ∨ r = -2 ∨ r = -5) (hB : nb_R (sg_e1 15 σF) w) (hWF : gq_W σF τF) (b2 : ∀ k, k < 79 → τF 2 k = nb (w k)) (c4 : ∀ p k, 41 ≤ p → p < 160 → σF p k = σ p k) (c40 : ∀ k, σF 0 k = σ 0 k) (f0 : ∀ k, k = 1 ∨ k = 6 ∨ k = 7 → τF 0 k = τ 0 k) (f3 : ∀ q k, q = 3 ∨ q = 5 ∨ q = 6 → τF q k = τ q k) : ∃ σ5 τ5, pz_B t r σF = some (-5, σ5) ∧ (if r = (-5) then f_X8_read_J85 (nb (t + 1)) (τF 0 2) τF else f_X8_read_J85 (nb (t + 1)) 0 τF) = some (-5, τ5) ∧ gx_A (m + 12) σ5 τ5 ∧ (∀ p k, 160 ≤ p → σ5 p k = σF p k) ∧ ∀ q k, q ≠ 1 → (q = 0 → 6 ≤ k) → τ5 q k = τF q k := by
  have hA0 := hA
  obtain ⟨⟨w0, r10, r20, r30⟩, hW, h6, hH, hS, hf⟩ := hA
  obtain ⟨w1, w2, w3, w4⟩ := hWF
  obtain ⟨τc, e1, a1, b1⟩ := hr_cp (σ := σF) (o := 1) (o2 := 15) (by omega)
  have et : nb (t + 1) - 1 = nb t := nb_sub (b := 1) (by omega)
  have J : ∀ (t0 : Int32) (bb : Nat), bb ≤ 1 → t0 = (if bb = 0 then 0 else τF 0 2) → ∃ σ5 τ5, sg_bnd (f_X3_copyFrom (sg_e2 13 1 15 σF)) (fun τ20 => sg_let (sg_m2 1 13 15 13 σF τ20) (fun σ22 => sg_bnd2 (f_X4_keepOfCommand (nb t) (nb bb) (sg_e1 14 σ22)) (fun r29 τ27 => sg_let (sg_m1 14 1 σ22 τ27) (fun σ30 => some (r29, σ30))))) = some (-5, σ5) ∧ f_X8_read_J85 (nb (t + 1)) t0 τF = some (-5, τ5) ∧ gx_A (m + 12) σ5 τ5 ∧ (∀ p k, 160 ≤ p → σ5 p k = σF p k) ∧ ∀ q k, q ≠ 1 → (q = 0 → 6 ≤ k) → τ5 q k = τF q k := by
    intro t0 bb hbb et0
    rw [e1, nb_bnd, nb_let]
    obtain ⟨κ2, k1, k2, k3, k4, k5⟩ := gx_kc (sg_e1 14 (sg_m2 1 13 15 13 σF τc)) (nb t) hbb
    rw [k1, nb_bnd2, nb_let]
    have s0 : sg_m2 1 13 15 13 σF τc 14 0 = σF 14 0 := b1 _ _ (by omega)
    have s1 : sg_m2 1 13 15 13 σF τc 14 1 = σF 14 1 := b1 _ _ (by omega)
    have k4' : κ2 0 2 = if bb = 0 then 0 else σF 14 0 := by
      rw [k4]
      show (if bb = 0 then 0 else sg_m2 1 13 15 13 σF τc 14 0) = _
      rw [s0]
    have k5' : bb ≠ 0 → κ2 0 3 = σF 14 1 := fun h => (k5 h).trans s1
    unfold f_X8_read_J85
    have er : f_X8_refuses 9 (nb t) τF = some (-5, sg_up (sg_up (sg_up (sg_up τF 0 2 9) 0 3 (nb t)) 0 4 0) 0 0 (-5)) := rfl
    rw [nb_let, et, er, nb_bnd2, nb_let, nb_let]
    obtain ⟨τE, q, hq⟩ : ∃ τE : sg_S, τE = sg_up (sg_up (sg_up (sg_up (sg_up (sg_up τF 0 2 9) 0 3 (nb t)) 0 4 0) 0 0 (-5)) 0 4 t0) 0 5 (τF 0 3) ∧ τE 0 0 = -5 := ⟨_, rfl, rfl⟩
    rw [← q]
    obtain ⟨τ5, d1, d2⟩ := hs_endf (x := -5) hq (by decide)
    rw [d1, nb_bnd2]
    have tE : ∀ p k, ¬ (p = 0 ∧ k = 0) → ¬ (p = 0 ∧ 2 ≤ k ∧ k ≤ 5) → τE p k = τF p k := fun p k h0 h2 => by
      rw [q, nb_up, if_neg (by omega), nb_up, if_neg (by omega), nb_up, if_neg (by omega), nb_up, if_neg (by omega), nb_up, if_neg (by omega), nb_up, if_neg (by omega)]
    have t5 : ∀ p k, p ≠ 1 → ¬ (p = 0 ∧ k = 0) → ¬ (p = 0 ∧ 2 ≤ k ∧ k ≤ 5) → τ5 p k = τF p k := fun p k h1 h0 h2 => by rw [d2, if_neg (fun c => h1 c.1), tE p k h0 h2]
    have z2 : τ5 0 2 = 9 := by rw [d2, if_neg (by omega), q]; rfl
    have z3 : τ5 0 3 = nb t := by rw [d2, if_neg (by omega), q]; rfl
    have z4 : τ5 0 4 = t0 := by rw [d2, if_neg (by omega), q]; rfl
    have z5 : τ5 0 5 = τF 0 3 := by rw [d2, if_neg (by omega), q]; rfl
    have o1 : ∀ p k, ¬ (1 ≤ p ∧ p < 15) → sg_m1 14 1 (sg_m2 1 13 15 13 σF τc) κ2 p k = σF p k := fun p k hp => by rw [nb_m1, if_neg (by omega), b1 p k (by omega)]
    have o14 : ∀ k, sg_m1 14 1 (sg_m2 1 13 15 13 σF τc) κ2 14 k = κ2 0 k := fun k => by rw [nb_m1, if_pos (by omega)]
    have hR5 : nb_R (sg_e1 1 (sg_m1 14 1 (sg_m2 1 13 15 13 σF τc) κ2)) w := nb_Rx (hr_R a1 hB r3.2.1) r3.2.1 (fun _ _ => rfl) (fun p k hp _ _ => by
      show sg_m2 1 13 15 13 σF τc (1 + p) k = sg_m1 14 1 (sg_m2 1 13 15 13 σF τc) κ2 (1 + p) k
      rw [nb_m1, if_neg (by omega)])
    have hV5 : nb_V (τ5 1) w := fun k hk => by
      rw [d2, if_pos ⟨rfl, hk⟩, tE 2 k (by omega) (by omega)]
      exact b2 k hk
    refine ⟨_, τ5, rfl, rfl, gx_mk hA0 (Nat.le_add_right m 12) ⟨w, hR5, hV5, gi_mono r3 (Nat.le_add_right m 12)⟩ ⟨?_, ?_, ?_, fun h4 => ?_⟩ (hh_mono (hh_x hH (fun p k hp => ?_) ?_ (fun k => ?_)) (Nat.le_add_right m 12)) ⟨?_, ?_⟩ (fun p k h1 h2 => ?_) ⟨?_, ?_⟩ (fun k _ => ?_) (fun k => ?_), fun p k hp => o1 p k (by omega), fun p k h1 h0 => t5 p k h1 (by omega) (by omega)⟩
    · rw [o14, z2, k2]
    · rw [o14, z3, k3]
    · rw [o14, z4, k4', et0, w1]
    · rw [z4, et0] at h4
      by_cases hz : bb = 0
      · rw [if_pos hz] at h4
        exact absurd rfl h4
      · rw [o14, z5, k5' hz, w2]
    · show sg_m1 14 1 (sg_m2 1 13 15 13 σF τc) κ2 (54 + p) k = σ (54 + p) k
      rw [o1 _ _ (by omega), c4 _ _ (by omega) (by omega)]
    · rw [t5 _ _ (by decide) (by omega) (by omega), f0 1 (by omega)]
    · rw [t5 _ _ (by decide) (by omega) (by omega), f3 5 k (by omega)]
    · rw [o1 _ _ (by omega), c40]
    · rw [o1 _ _ (by omega), c40]
    · rw [o1 _ _ (by omega), c4 _ _ h1 (by omega)]
    · rw [t5 _ _ (by decide) (by omega) (by omega), f0 6 (by omega)]
    · rw [t5 _ _ (by decide) (by omega) (by omega), f0 7 (by omega)]
    · rw [t5 _ _ (by decide) (by omega) (by omega), f3 3 k (by omega)]
    · rw [t5 _ _ (by decide) (by omega) (by omega), f3 6 k (by omega)]
  by_cases h5 : r = -5
  · rw [if_pos h5]
    obtain ⟨σ5, τ5, x1, x2⟩ := J (τF 0 2) 1 (Nat.le_refl 1) rfl
    refine ⟨σ5, τ5, ?_, x2⟩
    rw [← x1]
    unfold pz_B
    rw [e1, nb_bnd, nb_let, nb_bnd, nb_let, if_pos h5]
    rfl
  · rw [if_neg h5]
    obtain ⟨σ5, τ5, x1, x2⟩ := J 0 0 (Nat.zero_le 1) rfl
    refine ⟨σ5, τ5, ?_, x2⟩
    rw [← x1]
    unfold pz_B
    rw [e1, nb_bnd, nb_let, nb_bnd, nb_let, if_neg h5]
    rfl
theorem gx_read {m : Nat} {σ τ : sg_S} (hA : gx_A m σ τ) (hm : m < 8900) (hT : gx_T σ τ) (hw : pr_C τ) : pr_R m σ τ (f_X7_read σ) (f_X8_read τ) := by
  have hA0 := hA
  obtain ⟨⟨w, r1, r2, r3⟩, hW, h6, hH, hS, hf⟩ := hA
  obtain ⟨n, f, hn, hb, t21, t8, hch⟩ := hT
  obtain ⟨w11, w12⟩ := hw
  -- the class begins
  have i2 : pt_I (sg_up (sg_up (sg_e1 160 σ) 0 1 0) 0 2 0) f n 0 0 := by
    refine ⟨hn, Nat.zero_le n, by decide, qb_x hb (fun p k hp => ?_), ?_, nb_upE _ _ _ _⟩
    · show sg_up (sg_up (sg_e1 160 σ) 0 1 0) 0 2 0 (1 + p) k = σ (161 + p) k
      rw [nb_up, if_neg (by omega), nb_up, if_neg (by omega)]
      show σ (160 + (1 + p)) k = _
      rw [(by omega : 160 + (1 + p) = 161 + p)]
    · rw [nb_up, if_neg (by omega), nb_upE]
      try rfl
  -- the reference begins
  obtain ⟨τb, eb, b0, b2, bo⟩ := hs_begins τ
  obtain ⟨τ5, q5⟩ : ∃ τ5 : sg_S, τ5 = sg_up (sg_up (sg_up τb 0 23 (nb n)) 0 21 0) 0 26 0 := ⟨_, rfl⟩
  have f5 : ∀ q k, ¬ (q = 0 ∧ (k = 21 ∨ k = 23 ∨ k = 26)) → τ5 q k = τb q k := fun q k h => by rw [q5, nb_up, if_neg (by omega), nb_up, if_neg (by omega), nb_up, if_neg (by omega)]
  have f5b : ∀ q k, q ≠ 2 → ¬ (q = 0 ∧ (k = 0 ∨ k = 21 ∨ k = 23 ∨ k = 26)) → τ5 q k = τ q k := fun q k h2 h => by rw [f5 q k (by omega), bo q k h2 (by omega)]
  have v23 : τ5 0 23 = nb n := by rw [q5, nb_up, if_neg (by omega), nb_up, if_neg (by omega), nb_upE]
  have v21 : τ5 0 21 = 0 := by rw [q5, nb_up, if_neg (by omega), nb_upE]
  have v26 : τ5 0 26 = 0 := by rw [q5, nb_upE]
  have v00 : τ5 0 0 = 0 := by rw [f5 0 0 (by omega), b0]
  obtain ⟨τ7, q7⟩ : ∃ τ7 : sg_S, τ7 = sg_up (sg_up τ5 0 22 0) 0 25 0 := ⟨_, rfl⟩
  have F57 : pr_F τ5 τ7 := fun q k h _ => by rw [q7, nb_up, if_neg (by omega), nb_up, if_neg (by omega)]
  have I7 : pr_I τ7 f n 0 := by
    refine ⟨hn, Nat.zero_le n, ?_, (F57 0 23 (by omega) (by decide)).trans v23, ?_, fun k hk => ⟨?_, ?_⟩, fun k hk => ?_, fun k hk => ?_⟩
    · rw [q7, nb_up, if_neg (by omega), nb_upE]
      try rfl
    · rw [q7, nb_upE]
    · rw [F57 8 k (by omega) (by decide), f5b 8 k (by decide) (by omega)]
      exact t8 k hk
    · have := (hch k hk).2
      omega
    · rw [F57 11 k (by omega) (by decide), f5b 11 k (by decide) (by omega)]
      exact w11 k hk
    · rw [F57 12 k (by omega) (by decide), f5b 12 k (by decide) (by omega)]
      exact w12 k hk
  obtain ⟨b, κ2, rr, τ8, x1, x2, x3, x4, x5⟩ := pw_1 (f := f) (n := n) 11 0 0 999 1000 _ τ7 (by decide) (by decide) (by decide) i2 I7 ((F57 0 26 (by omega) (by decide)).trans v26) ((F57 0 0 (by omega) (by decide)).trans v00) (Nat.zero_le 0)
  have wf : f_X5_isWellFormed (sg_e1 160 σ) = some (b, κ2) := by
    unfold f_X5_isWellFormed
    rw [nb_let, nb_let]
    show f_X5_isWellFormed_L12 (999 + 1) (nb 0) _ = _
    rw [f_X5_isWellFormed_L12, if_pos (by decide), if_neg nb_npos]
    exact x1
  have cm : f_X8_commands τ5 = some (rr, τ8) := by
    unfold f_X8_commands
    rw [nb_let, nb_let, ← q7]
    exact x2
  -- the class's input is empty
  have h4b : qb_I (sg_e1 161 (sg_m1 160 17 σ κ2)) n f := by
    refine qb_x hb (fun p k hp => ?_)
    show sg_m1 160 17 σ κ2 (161 + p) k = σ (161 + p) k
    rw [nb_m1, if_pos (by omega), (by omega : 161 + p - 160 = 1 + p), x3 (1 + p) k (by omega) (by omega) (by omega), nb_up, if_neg (by omega), nb_up, if_neg (by omega)]
    show σ (160 + (1 + p)) k = _
    rw [(by omega : 160 + (1 + p) = 161 + p)]
  obtain ⟨κ5, s1, s2⟩ := qb_set h4b (fun _ => 0)
  obtain ⟨σ7, p7⟩ : ∃ σ7 : sg_S, σ7 = sg_m1 161 2 (sg_m1 160 17 σ κ2) κ5 := ⟨_, rfl⟩
  have c7 : ∀ p k, p < 160 ∨ 177 ≤ p → σ7 p k = σ p k := fun p k hp => by rw [p7, nb_m1, if_neg (by omega), nb_m1, if_neg (by omega)]
  have c7k : ∀ p k, p = 0 ∨ (3 ≤ p ∧ p < 17) → σ7 (160 + p) k = κ2 p k := fun p k hp => by rw [p7, nb_m1, if_neg (by omega), nb_m1, if_pos (by omega), (by omega : 160 + p - 160 = p)]
  have c7t : qb_I (sg_e1 161 σ7) 0 (fun _ => 0) := qb_x s2 (fun p k hp => by
    show σ7 (161 + p) k = κ5 p k
    rw [p7, nb_m1, if_pos (by omega), (by omega : 161 + p - 161 = p)])
  have A7 : gx_A m σ7 τ5 := gx_x2 hA0 (fun p k _ hp => c7 p k (by omega)) (fun q k hq => f5b q k (by omega) (by omega))
  unfold f_X7_read f_X8_read
  rw [wf, nb_bnd2, nb_let, s1, nb_bnd, nb_let, ← p7, eb, nb_bnd]
  have e21 : τb 0 21 = nb n := (bo 0 21 (by decide) (by omega)).trans t21
  rw [e21, nb_let, nb_let, nb_let, ← q5, nb_let, cm, nb_bnd2]
  have F58 : pr_F τ5 τ8 := pr_Ftr F57 x4
  rcases x5 with ⟨y1, y2, M, y3, y4, y5⟩ | ⟨y1, y2, L, y3, y4, y5, y6⟩
  · -- a fault
    have z1 : σ7 160 1 = nb M := (c7k 0 1 (by omega)).trans y4
    rw [y1, if_pos rfl, y2, if_neg nb_10, nb_let, z1, y5]
    have A8 : gx_A m σ7 τ8 := gx_x2 A7 (fun _ _ _ _ => rfl) (fun q k hq => F58 q k (by omega) (by omega))
    have u1 : ∀ p k, ¬ (p = 0 ∧ k = 9) → sg_up σ7 0 9 (nb M) p k = σ7 p k := fun p k hp => by rw [nb_up, if_neg hp]
    have u2 : ∀ p k, ¬ (p = 0 ∧ k = 6) → sg_up τ8 0 6 (nb M) p k = τ8 p k := fun p k hp => by rw [nb_up, if_neg hp]
    refine ⟨-2, _, _, rfl, rfl, gx_mono (gx_flt A8 (nb_nneg (by omega))) (Nat.le_add_right m 12), ⟨0, fun _ => 0, by decide, qb_x c7t (fun p k hp => u1 _ _ (by omega)), ?_, fun k hk => absurd hk (Nat.not_lt_zero k), fun k hk => absurd hk (Nat.not_lt_zero k)⟩, fun p k hp => ?_, fun k => ?_, ?_, fun q k hq => ?_⟩
    · rw [u2 _ _ (by omega), F58 0 21 (by omega) (by decide), v21]
      try rfl
    · rw [u1 _ _ (by omega), c7 p k (by omega)]
    · rw [u2 _ _ (by omega), F58 9 k (by omega) (by decide), f5b 9 k (by decide) (by omega)]
    · rw [u2 _ _ (by omega), F58 0 24 (by omega) (by decide), f5b 0 24 (by decide) (by omega)]
    · rw [u2 _ _ (by omega), F58 q k (by omega) (by omega), f5b q k (by omega) (by omega)]
  · -- commands
    obtain ⟨τc, ec, ac, bc⟩ := hr_cp (σ := σ7) (o := 15) (o2 := 1) (by omega)
    rw [y1, if_neg nb_10, ec, nb_bnd, nb_let, y2, if_pos rfl, nb_let]
    obtain ⟨σ10, p10⟩ : ∃ σ10 : sg_S, σ10 = sg_m2 15 13 1 13 σ7 τc := ⟨_, rfl⟩
    rw [← p10] at ac bc ⊢
    have hR7 : nb_R (sg_e1 1 σ7) w := nb_Rx r1 r3.2.1 (fun _ _ => rfl) (fun p k hp _ _ => (c7 _ _ (by omega)).symm)
    have hB10 : nb_R (sg_e1 15 σ10) w := hr_R ac hR7 r3.2.1
    have hR10 : nb_R (sg_e1 1 σ10) w := nb_Rx hR7 r3.2.1 (fun _ _ => rfl) (fun p k hp _ _ => (bc _ _ (by omega)).symm)
    obtain ⟨τ11, q11⟩ : ∃ τ11 : sg_S, τ11 = sg_up (sg_up (sg_up τ8 0 26 1) 0 22 0) 0 25 0 := ⟨_, rfl⟩
    have f11 : ∀ q k, q ≠ 10 → ¬ (q = 0 ∧ (k = 22 ∨ k = 25 ∨ k = 26)) → τ11 q k = τ5 q k := fun q k h10 h => by rw [q11, nb_up, if_neg (by omega), nb_up, if_neg (by omega), nb_up, if_neg (by omega), F58 q k (by omega) h10]
    have I11 : pr_I τ11 f n 0 := by
      obtain ⟨i1, i2, i3, i4, i5, i6, i7, i8⟩ := I7
      refine ⟨hn, Nat.zero_le n, ?_, (f11 0 23 (by decide) (by omega)).trans v23, ?_, fun k hk => ⟨?_, (i6 k hk).2⟩, fun k hk => ?_, fun k hk => ?_⟩
      · rw [q11, nb_up, if_neg (by omega), nb_upE]
        try rfl
      · rw [q11, nb_upE]
      · rw [f11 8 k (by decide) (by omega), ← F57 8 k (by omega) (by decide)]
        exact (i6 k hk).1
      · rw [f11 11 k (by decide) (by omega), ← F57 11 k (by omega) (by decide)]
        exact i7 k hk
      · rw [f11 12 k (by decide) (by omega), ← F57 12 k (by omega) (by decide)]
        exact i8 k hk
    have V11 : nb_V (τ11 1) w := fun k hk => by
      rw [f11 1 k (by decide) (by omega), f5b 1 k (by decide) (by omega)]
      exact r2 k hk
    have W11 : gq_W σ10 τ11 := gq_Wx hW (fun k => by rw [bc 14 k (by omega), c7 14 k (by omega)]) (fun k h2 h5 => by rw [f11 0 k (by decide) (by omega), f5b 0 k (by decide) (by omega)])
    have H11 : gq_H m w σ10 τ11 := ⟨hR10, V11, r3, W11, (f11 0 0 (by decide) (by omega)).trans v00, by omega, fun k hk => by rw [f11 6 k (by decide) (by omega), f5b 6 k (by decide) (by omega)]; exact h6 k hk⟩
    have D10 : pw_D f n (sg_e1 160 σ10) 0 L 0 := pz_Dy (fun k hk => by
      show σ10 (160 + 3) k = κ2 3 k
      rw [bc (160 + 3) k (by omega), c7k 3 k (by omega)]) (fun t j ht => by
      show σ10 (160 + (5 + t)) j = κ2 (5 + t) j
      rw [bc (160 + (5 + t)) j (by omega), c7k (5 + t) j (by omega)]) L 0 0 (by omega) y4
    have C10 : σ10 160 2 = nb L.length := by
      rw [bc 160 2 (by omega), show σ7 160 2 = κ2 0 2 from c7k 0 2 (by omega), y5, Nat.zero_add]
    obtain ⟨σF, τF, r9, g1, g2, g3, g4, g5⟩ := pz_2 (f := f) (n := n) L m 0 0 1000 1000 L.length w σ10 τ11 y3 D10 C10 (Nat.zero_add _).symm (by omega) (by omega) (by omega) H11 I11 (by rw [q11, nb_up, if_neg (by omega), nb_up, if_neg (by omega), nb_upE]) (by omega)
    have cm2 : f_X8_commands (sg_up τ8 0 26 1) = some (r9, τF) := by
      unfold f_X8_commands
      rw [nb_let, nb_let, ← q11]
      exact g1
    rw [cm2, nb_bnd2]
    have cF : ∀ p k, p = 0 ∨ 28 ≤ p → σF p k = σ7 p k := fun p k hp => by rw [g2 p (by omega), bc p k (by omega)]
    have BF : nb_R (sg_e1 15 σF) w := nb_Rx hB10 r3.2.1 (fun _ _ => rfl) (fun p k hp _ _ => by
      show σ10 (15 + p) k = σF (15 + p) k
      rw [g2 (15 + p) (by omega)])
    have tF : ∀ q k, q ≠ 1 → q ≠ 7 → q ≠ 10 → (q = 0 → k = 1 ∨ (5 ≤ k ∧ k ≠ 15 ∧ k ≠ 22 ∧ k ≠ 25 ∧ k ≠ 26)) → τF q k = τ5 q k := fun q k h1 h7 h10 h0 => by rw [g3 q k h1 h7 h10 (by omega), f11 q k h10 (by omega)]
    have tF2 : ∀ k, k < 79 → τF 2 k = nb (w k) := fun k hk => by
      rw [tF 2 k (by decide) (by decide) (by decide) (by omega), f5 2 k (by omega), b2 k hk]
      exact r2 k hk
    have ftail : ∀ σ5 τ6 : sg_S, (∀ p k, 160 ≤ p → σ5 p k = σF p k) → (∀ q k, q ≠ 1 → q ≠ 5 → (q = 0 → 6 ≤ k) → τ6 q k = τF q k) → gx_T σ5 τ6 ∧ (∀ p k, 177 ≤ p → σ5 p k = σ p k) ∧ (∀ k, τ6 9 k = τ 9 k) ∧ τ6 0 24 = τ 0 24 ∧ ∀ q k, q = 11 ∨ q = 12 → τ6 q k = τ q k := fun σ5 τ6 a1 a2 => by
      refine ⟨⟨0, fun _ => 0, by decide, qb_x c7t (fun p k hp => ?_), ?_, fun k hk => absurd hk (Nat.not_lt_zero k), fun k hk => absurd hk (Nat.not_lt_zero k)⟩, fun p k hp => ?_, fun k => ?_, ?_, fun q k hq => ?_⟩
      · show σ5 (161 + p) k = σ7 (161 + p) k
        rw [a1 _ _ (by omega), cF _ _ (by omega)]
      · rw [a2 0 21 (by decide) (by decide) (by omega), tF 0 21 (by decide) (by decide) (by decide) (by omega), v21]
        try rfl
      · rw [a1 _ _ (by omega), cF _ _ (by omega), c7 _ _ (by omega)]
      · rw [a2 9 k (by decide) (by decide) (by omega), tF 9 k (by decide) (by decide) (by decide) (by omega), f5b 9 k (by decide) (by omega)]
      · rw [a2 0 24 (by decide) (by decide) (by omega), tF 0 24 (by decide) (by decide) (by decide) (by omega), f5b 0 24 (by decide) (by omega)]
      · rw [a2 q k (by omega) (by omega) (by omega), tF q k (by omega) (by omega) (by omega) (by omega), f5b q k (by omega) (by omega)]
    rcases g5 with ⟨u1, u2, ⟨wF, u3, u4, u5⟩, u6⟩ | ⟨t, r, u1, u2, u3, u4, u5⟩
    · obtain ⟨σ5, τ6, v1, v2, v3, v4, v5⟩ := gx_keep (x := r9) hA0 (Nat.le_add_right m 12) r3 BF g4 u2 u3 u4 (gi_mono u5 (by omega)) tF2 (fun p k h1 h2 => by rw [cF p k (by omega), c7 p k (by omega)]) (fun k => by rw [cF 0 k (by omega), c7 0 k (by omega)]) (fun k hk => by rw [tF 0 k (by decide) (by decide) (by decide) (by omega), f5b 0 k (by decide) (by omega)]) (fun q k hq => by rw [tF q k (by omega) (by omega) (by omega) (by omega), f5b q k (by omega) (by omega)])
      have u6' : f_X7_read_L50 1000 0 σ10 = pz_A σF := u6
      have z160 : σ5 160 2 = nb L.length := by rw [v4 160 2 (by decide), g2 160 (by decide), C10]
      obtain ⟨h1, h2, h3, h4, h5⟩ := ftail σ5 τ6 v4 (fun q k h1 h5 h0 => v5 q k h5 (by omega))
      rw [u6', v1, u2, if_pos rfl, v2, nb_bnd2, z160, u1]
      exact ⟨_, σ5, τ6, rfl, rfl, v3, h1, h2, h3, h4, h5⟩
    · obtain ⟨σ5, τ6, v1, v2, v3, v4, v5⟩ := pr_B (t := t) hA0 r3 (by omega) u3 BF g4 tF2 (fun p k h1 h2 => by rw [cF p k (by omega), c7 p k (by omega)]) (fun k => by rw [cF 0 k (by omega), c7 0 k (by omega)]) (fun k hk => by rw [tF 0 k (by decide) (by decide) (by decide) (by omega), f5b 0 k (by decide) (by omega)]) (fun q k hq => by rw [tF q k (by omega) (by omega) (by omega) (by omega), f5b q k (by omega) (by omega)])
      have u5' : f_X7_read_L50 1000 0 σ10 = pz_B t r σF := u5
      have r0 : ¬ r = 0 := by rcases u3 with e | e | e <;> rw [e] <;> decide
      obtain ⟨h1, h2, h3, h4, h5⟩ := ftail σ5 τ6 v4 (fun q k h1 _ h0 => v5 q k h1 h0)
      rw [u5', v1, u4, if_neg r0, u2, v2]
      exact ⟨-5, σ5, τ6, rfl, rfl, v3, h1, h2, h3, h4, h5⟩
