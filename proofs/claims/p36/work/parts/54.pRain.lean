/-! RAIN: what falls by treaties, in the class and in the reference -/
def gw_a (w : Nat → Nat) (t u : Nat) : Bool := decide (w (30 + 5 * t + u) = 1)
def gw_S (w : Nat → Nat) : Prop := ∀ t u, t < 5 → u < 5 → w (30 + 5 * t + u) ≤ 1 ∧ w (30 + 5 * t + u) = w (30 + 5 * u + t)
theorem gr_bit {x : Nat} (h : x ≤ 1) : (decide (x = 1)).toNat = x := by
  rcases (by omega : x = 0 ∨ x = 1) with rfl | rfl <;> rfl
theorem gr_mask {w : Nat → Nat} (hs : gw_S w) {t : Nat} (ht : t < 5) : nb_mask w t = gf_m (gw_a w t) := by
  unfold nb_mask gf_m gw_a
  rw [gr_bit (hs t 0 ht (by decide)).1, gr_bit (hs t 1 ht (by decide)).1, gr_bit (hs t 2 ht (by decide)).1, gr_bit (hs t 3 ht (by decide)).1, gr_bit (hs t 4 ht (by decide)).1]
  try rfl
theorem gr_T {ρ : sg_S} {w : Nat → Nat} (h : nb_N ρ w) (hs : gw_S w) : gf_T (sg_e1 5 ρ) (gw_a w) := by
  intro t ht
  show ρ 6 t = _
  rw [h.2.1 t ht, gr_mask hs ht]
theorem gr_E {τ : sg_S} {w : Nat → Nat} (hV : nb_V (τ 1) w) (hs : gw_S w) : gf_E τ (gw_a w) := by
  intro t u ht hu
  have b := (hs t u ht hu).1
  rw [hV (30 + 5 * t + u) (by omega)]
  show nb (w (30 + 5 * t + u)) = nb 1 ↔ _
  rw [nb_eq (by omega) (by decide), (hs t u ht hu).2]
  unfold gw_a
  exact (decide_eq_true_iff).symm
def gw_c (r g : Nat) : Nat := if r + g < 60 then r + g else 60
def gr_s (g : Nat → Nat) : Nat → Nat
  | 0 => 0
  | i + 1 => gr_s g i + g i
def gw_rain (w g : Nat → Nat) : Nat → Nat → Nat
  | 0 => w
  | i + 1 => gw_u (gw_rain w g i) (11 + 4 * i) (gw_c (w (11 + 4 * i)) (g i))
theorem gw_rain_ne {w g : Nat → Nat} : ∀ {i k : Nat}, (∀ j, j < i → k ≠ 11 + 4 * j) → gw_rain w g i k = w k := by
  intro i
  induction i with
  | zero =>
    intro k _
    rfl
  | succ i ih =>
    intro k h
    rw [gw_rain, gw_ne _ _ (h i (by omega)), ih (fun j hj => h j (by omega))]
theorem gw_rain_at {w g : Nat → Nat} : ∀ {i j : Nat}, j < i → gw_rain w g i (11 + 4 * j) = gw_c (w (11 + 4 * j)) (g j) := by
  intro i
  induction i with
  | zero =>
    intro j h
    omega
  | succ i ih =>
    intro j h
    by_cases e : j = i
    · subst e
      rw [gw_rain, gw_at]
    · rw [gw_rain, gw_ne _ _ (by omega), ih (by omega)]
theorem gr_c {r g : Nat} (h : r + g < 2147483648) : (if nb r + nb g < 60 then nb r + nb g else (60 : Int32)) = nb (gw_c r g) := by
  rw [nb_add]
  unfold gw_c
  by_cases c : r + g < 60
  · rw [if_pos c, if_pos (show nb (r + g) < (60 : Int32) from nb_lt_t (b := 60) c (by decide))]
  · rw [if_neg c, if_neg (show ¬ nb (r + g) < (60 : Int32) from nb_lt_f (b := 60) (by omega) h)]
    try rfl
def gr_b (w : Nat → Nat) : Prop := ∀ t, t < 5 → w (11 + 4 * t) < 1000000
theorem gr_class {ρ : sg_S} {w : Nat → Nat} {t H : Nat} (h : nb_N ρ w) (hs : gw_S w) (hr : gr_b w) (ht : t < 5) (hH : H < 1000000) : ∃ ρ2, f_X3_letRain (nb t) (nb H) ρ = some (nb (gr_s (gf_g (gw_a w) t H) 5), ρ2) ∧ nb_N ρ2 (gw_rain w (gf_g (gw_a w) t H) 5) ∧ (∀ p, 8 ≤ p → p < 12 → ρ2 p = ρ p) := by
  have L : ∀ m i n (σ : sg_S), i + m = 5 → m < n → nb_N σ (gw_rain w (gf_g (gw_a w) t H) i) → (∀ q, q < 5 → σ 7 q = nb (gf_g (gw_a w) t H q)) → ∃ ρ2, f_X3_letRain_L14 (nb t) (nb H) n (nb (gr_s (gf_g (gw_a w) t H) i)) (nb i) σ = some (nb (gr_s (gf_g (gw_a w) t H) 5), ρ2) ∧ nb_N ρ2 (gw_rain w (gf_g (gw_a w) t H) 5) ∧ (∀ p, 8 ≤ p → p < 12 → ρ2 p = σ p) := by
    intro m
    induction m with
    | zero =>
      intro i n σ h1 h2 hN h7
      obtain ⟨n, rfl⟩ : ∃ k, n = k + 1 := ⟨n - 1, by omega⟩
      have e : i = 5 := by omega
      subst e
      refine ⟨σ, ?_, hN, fun _ _ _ => rfl⟩
      rw [f_X3_letRain_L14, if_neg nb_nlt5]
    | succ m ih =>
      intro i n σ h1 h2 hN h7
      obtain ⟨n, rfl⟩ : ∃ k, n = k + 1 := ⟨n - 1, by omega⟩
      have hi : i < 5 := by omega
      have hr2 := hr i hi
      have hg := gf_gle (gw_a w) t H i
      have e2 : σ 2 i = nb (w (11 + 4 * i)) := by
        rw [nb_g2 hN hi, gw_rain_ne (fun j hj => by omega)]
      have hN2 := nb_Nu hN (p := 2) (k := i) (j := 11 + 4 * i) (by unfold nb_lk; omega) (gw_c (w (11 + 4 * i)) (gf_g (gw_a w) t H i))
      obtain ⟨ρ2, a, b, c⟩ := ih (i + 1) n (sg_up σ 2 i (nb (gw_c (w (11 + 4 * i)) (gf_g (gw_a w) t H i)))) (by omega) (by omega) hN2 (fun q hq => by rw [nb_up, if_neg (by omega)]; exact h7 q hq)
      refine ⟨ρ2, ?_, b, fun p h8 h12 => ?_⟩
      · rw [f_X3_letRain_L14, if_pos (nb_lt5 hi), nb_grd (nb_i5 hi), nb_let, nb_let, nb_t5 hi, e2, h7 i hi, gr_c (by omega), nb_up, if_neg (by omega), h7 i hi, nb_add, nb_succ]
        exact a
      · rw [c p h8 h12]
        funext k
        rw [nb_up, if_neg (by omega)]
  have hT := gr_T h hs
  unfold f_X3_letRain
  rw [gf_spread hT ht (by omega), nb_bnd, nb_let]
  have hN0 : nb_N (sg_m1 5 3 ρ (gf_D (sg_e1 5 ρ) (gf_g (gw_a w) t H))) w := by
    refine nb_Nx h (fun _ _ _ => rfl) (fun p k hp => ?_)
    rw [nb_m1]
    by_cases c : 5 ≤ p ∧ p < 5 + 3
    · rw [if_pos c]
      have e : p = 6 := by omega
      subst e
      unfold gf_D
      rw [gf_Sne (by decide)]
      try rfl
    · rw [if_neg c]
  have h70 : ∀ q, q < 5 → sg_m1 5 3 ρ (gf_D (sg_e1 5 ρ) (gf_g (gw_a w) t H)) 7 q = nb (gf_g (gw_a w) t H q) := by
    intro q hq
    rw [nb_m1, if_pos (by omega)]
    unfold gf_D
    exact gf_Sat hq
  obtain ⟨ρ2, a, b, c⟩ := L 5 0 1000 _ (by omega) (by omega) hN0 h70
  refine ⟨ρ2, a, b, fun p h8 h12 => ?_⟩
  rw [c p h8 h12]
  funext k
  rw [nb_m1, if_neg (by omega)]
theorem gr_ref {τ : sg_S} {w : Nat → Nat} {t H : Nat} (hV : nb_V (τ 1) w) (hs : gw_S w) (hr : gr_b w) (ht : t < 5) (hH : H < 1000000) : ∃ τ2, f_X8_rains (nb t) (nb H) τ = some (nb (gr_s (gf_g (gw_a w) t H) 5), τ2) ∧ nb_V (τ2 1) (gw_rain w (gf_g (gw_a w) t H) 5) ∧ nb_F0 τ τ2 := by
  have L : ∀ m i n (σ : sg_S), i + m = 5 → m < n → nb_V (σ 1) (gw_rain w (gf_g (gw_a w) t H) i) → (∀ q, q < 5 → σ 7 q = gf_w (gw_a w) t 4 q) → ∃ τ2, f_X8_rains_L10 (nb t) (nb H) n (nb (gr_s (gf_g (gw_a w) t H) i)) (nb i) σ = some (nb (gr_s (gf_g (gw_a w) t H) 5), τ2) ∧ nb_V (τ2 1) (gw_rain w (gf_g (gw_a w) t H) 5) ∧ nb_F0 σ τ2 := by
    intro m
    induction m with
    | zero =>
      intro i n σ h1 h2 hN h7
      obtain ⟨n, rfl⟩ : ∃ k, n = k + 1 := ⟨n - 1, by omega⟩
      have e : i = 5 := by omega
      subst e
      refine ⟨σ, ?_, hN, nb_F0rf σ⟩
      rw [f_X8_rains_L10, if_neg nb_nlt5]
    | succ m ih =>
      intro i n σ h1 h2 hN h7
      obtain ⟨n, rfl⟩ : ∃ k, n = k + 1 := ⟨n - 1, by omega⟩
      have hi : i < 5 := by omega
      have hr2 := hr i hi
      have hg := gf_gle (gw_a w) t H i
      have e2 : σ 1 (11 + 4 * i) = nb (w (11 + 4 * i)) := by
        rw [hN (11 + 4 * i) (by omega), gw_rain_ne (fun j hj => by omega)]
      have hN2 := nb_Vu hN (11 + 4 * i) (gw_c (w (11 + 4 * i)) (gf_g (gw_a w) t H i))
      obtain ⟨τ2, a, b, c⟩ := ih (i + 1) n (sg_up σ 1 (11 + 4 * i) (nb (gw_c (w (11 + 4 * i)) (gf_g (gw_a w) t H i)))) (by omega) (by omega) hN2 (fun q hq => by rw [nb_up, if_neg (by omega)]; exact h7 q hq)
      refine ⟨τ2, ?_, b, nb_F0tr (nb_F0u σ _ _) c⟩
      rw [f_X8_rains_L10, if_pos (nb_lt5 hi), gf_share hi (by omega) (h7 i hi), nb_bnd, nb_at1, nb_bnd, nb_grd (nb_i79 (by omega)), nb_t79 (by omega), e2, nb_let, nb_let, nb_bnd, nb_add, nb_add, nb_succ, nb_grd (nb_i79 (by omega)), nb_grd (nb_i79 (by omega)), nb_let, nb_let, nb_t79 (by omega)]
      by_cases c : w (11 + 4 * i) + gf_g (gw_a w) t H i < 60
      · rw [if_neg (show ¬ (60 : Int32) < nb (w (11 + 4 * i) + gf_g (gw_a w) t H i) from nb_lt_f (a := 60) (by omega) (by decide))]
        have e3 : gw_c (w (11 + 4 * i)) (gf_g (gw_a w) t H i) = w (11 + 4 * i) + gf_g (gw_a w) t H i := if_pos c
        rw [e3] at a
        exact a
      · have e3 : gw_c (w (11 + 4 * i)) (gf_g (gw_a w) t H i) = 60 := if_neg c
        rw [e3] at a
        by_cases d : w (11 + 4 * i) + gf_g (gw_a w) t H i = 60
        · rw [if_neg (show ¬ (60 : Int32) < nb (w (11 + 4 * i) + gf_g (gw_a w) t H i) from nb_lt_f (a := 60) (by omega) (by decide)), d]
          exact a
        · rw [if_pos (show (60 : Int32) < nb (w (11 + 4 * i) + gf_g (gw_a w) t H i) from nb_lt_t (a := 60) (by omega) (by omega))]
          exact a
  have hE := gr_E hV hs
  unfold f_X8_rains
  rw [gf_finds hE ht, nb_bnd]
  have hV0 : nb_V (gf_S τ 7 (gf_w (gw_a w) t 4) 1) w := fun k hk => (gf_Sne (by decide) k).trans (hV k hk)
  obtain ⟨τ2, a, b, c⟩ := L 5 0 1000 _ (by omega) (by omega) hV0 (fun q hq => gf_Sat hq)
  exact ⟨τ2, a, b, nb_F0tr (fun p k _ h7 => gf_Sne h7 k) c⟩
