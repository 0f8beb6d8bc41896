/-! MONTH: hail, sun, and a whole month in both -/
def gh_b (n u : Nat) : Nat := if u < n then u else n
/-- n stones: u umbrellas break first, then s hours of sun are taken -/
def gh_c (w : Nat → Nat) (t n : Nat) : Nat → Nat := fun k => if k = 12 + 4 * t then w k - gh_b n (w (12 + 4 * t)) else if k = 10 + 4 * t then w k - gh_b (n - gh_b n (w (12 + 4 * t))) (w (10 + 4 * t)) else if k = 13 + 4 * t then w k - 1 else if k = 5 then w k + gh_b n (w (12 + 4 * t)) else if k = 4 then w k + gh_b (n - gh_b n (w (12 + 4 * t))) (w (10 + 4 * t)) else w k
theorem nb_dec (n : Nat) : nb (n + 1) + (-1) = nb n := by
  rw [← Int32.sub_eq_add_neg]
  exact nb_sub (a := n + 1) (b := 1) (by omega)
theorem gh_cx {W w : Nat → Nat} {t n N : Nat} (ht : t < 5) (h12 : W (12 + 4 * t) - gh_b n (W (12 + 4 * t)) = w (12 + 4 * t) - gh_b N (w (12 + 4 * t))) (h10 : W (10 + 4 * t) - gh_b (n - gh_b n (W (12 + 4 * t))) (W (10 + 4 * t)) = w (10 + 4 * t) - gh_b (N - gh_b N (w (12 + 4 * t))) (w (10 + 4 * t))) (h5 : W 5 + gh_b n (W (12 + 4 * t)) = w 5 + gh_b N (w (12 + 4 * t))) (h4 : W 4 + gh_b (n - gh_b n (W (12 + 4 * t))) (W (10 + 4 * t)) = w 4 + gh_b (N - gh_b N (w (12 + 4 * t))) (w (10 + 4 * t))) (hne : ∀ k, k ≠ 12 + 4 * t → k ≠ 10 + 4 * t → k ≠ 5 → k ≠ 4 → W k = w k) : ∀ k, gh_c W t n k = gh_c w t N k := by
  intro k
  unfold gh_c
  by_cases c1 : k = 12 + 4 * t
  · rw [if_pos c1, if_pos c1, c1]
    exact h12
  · rw [if_neg c1, if_neg c1]
    by_cases c2 : k = 10 + 4 * t
    · rw [if_pos c2, if_pos c2, c2]
      exact h10
    · rw [if_neg c2, if_neg c2]
      by_cases c3 : k = 13 + 4 * t
      · rw [if_pos c3, if_pos c3, hne k c1 c2 (by omega) (by omega)]
      · rw [if_neg c3, if_neg c3]
        by_cases c4 : k = 5
        · rw [if_pos c4, if_pos c4, c4]
          exact h5
        · rw [if_neg c4, if_neg c4]
          by_cases c5 : k = 4
          · rw [if_pos c5, if_pos c5, c5]
            exact h4
          · rw [if_neg c5, if_neg c5]
            exact hne k c1 c2 c4 c5
theorem gh_b0 (u : Nat) : gh_b 0 u = 0 := by
  unfold gh_b
  split <;> omega
theorem gh_bz (n : Nat) : gh_b n 0 = 0 := by
  unfold gh_b
  split <;> omega
theorem gh_bs {n u : Nat} (h : 0 < u) : gh_b (n + 1) u = gh_b n (u - 1) + 1 := by
  unfold gh_b
  split <;> split <;> omega
theorem gh_ble (n u : Nat) : gh_b n u ≤ u ∧ gh_b n u ≤ n := by
  unfold gh_b
  split <;> omega
theorem gh_ref {t : Nat} (ht : t < 5) : ∀ (n f : Nat) (τ : sg_S) (w : Nat → Nat), n < f → n < 1000000 → nb_V (τ 1) w → (∀ q, q < 5 → w (10 + 4 * q) < 1000000 ∧ w (12 + 4 * q) < 1000000) → 1 ≤ w (13 + 4 * t) → ∃ τ2, f_X8_hails_L29 (nb t) f (nb n) τ = some τ2 ∧ nb_V (τ2 1) (gh_c w t n) ∧ nb_F0 τ τ2 := by
  intro n
  induction n with
  | zero =>
    intro f τ w hf hn hV hb h1
    obtain ⟨f, rfl⟩ : ∃ k, f = k + 1 := ⟨f - 1, by omega⟩
    have v := nb_Vm hV (k := 13 + 4 * t) (d := 1) (by omega) h1
    refine ⟨_, ?_, nb_Vx v (fun k hk => ?_), nb_F0u _ _ _⟩
    · rw [f_X8_hails_L29, if_neg nb_npos, nb_at3, nb_bnd, nb_grd (nb_i79 (by omega)), nb_t79 (by omega), nb_let]
      rfl
    · unfold gh_c gw_m
      rw [gh_b0, Nat.sub_zero, gh_b0]
      by_cases c : k = 13 + 4 * t
      · rw [if_pos c, if_neg (by omega), if_neg (by omega), if_pos c]
      · rw [if_neg c, if_neg c]
        repeat' split
        all_goals omega
  | succ n ih =>
    intro f τ w hf hn hV hb h1
    obtain ⟨f, rfl⟩ : ∃ k, f = k + 1 := ⟨f - 1, by omega⟩
    obtain ⟨b1, b2⟩ := hb t ht
    by_cases c : 0 < w (12 + 4 * t)
    · have v := nb_Vm hV (k := 12 + 4 * t) (d := 1) (by omega) c
      have v2 := nb_Vp v (k := 5) (by decide) 1
      have e12 : gw_p (gw_m w (12 + 4 * t) 1) 5 1 (12 + 4 * t) = w (12 + 4 * t) - 1 := by rw [gw_pne _ _ (by omega), gw_mat]
      have ene : ∀ k, k ≠ 12 + 4 * t → k ≠ 5 → gw_p (gw_m w (12 + 4 * t) 1) 5 1 k = w k := fun k a1 a2 => by rw [gw_pne _ _ a2, gw_mne _ _ a1]
      have e5 : gw_p (gw_m w (12 + 4 * t) 1) 5 1 5 = w 5 + 1 := by rw [gw_pat, gw_mne _ _ (by omega)]
      obtain ⟨τ2, a, b, d⟩ := ih f _ _ (by omega) (by omega) v2 (fun q hq => by
        obtain ⟨q1, q2⟩ := hb q hq
        refine ⟨by rw [ene _ (by omega) (by omega)]; exact q1, ?_⟩
        by_cases e : q = t
        · rw [e, e12]
          omega
        · rw [ene _ (by omega) (by omega)]
          exact q2) (by
        rw [ene _ (by omega) (by omega)]
        exact h1)
      refine ⟨τ2, ?_, nb_Vx b (fun k hk => ?_), nb_F0tr (nb_F0u _ _ _) (nb_F0tr (nb_F0u _ _ _) d)⟩
      · rw [f_X8_hails_L29, if_pos (nb_pos (by omega) (by omega)), nb_at2, nb_bnd, nb_grd (nb_i79 (by omega)), nb_t79 (by omega), hV (12 + 4 * t) (by omega), if_pos (nb_pos c (by omega)), nb_bnd, nb_grd (nb_i79 (by omega)), nb_let, nb_let, nb_t79 (by omega), nb_dec]
        exact a
      · have hB := gh_bs (n := n) c
        have hq : n + 1 - gh_b (n + 1) (w (12 + 4 * t)) = n - gh_b n (w (12 + 4 * t) - 1) := by omega
        have hl := gh_ble n (w (12 + 4 * t) - 1)
        exact gh_cx ht (by rw [e12, hB]; omega) (by rw [e12, ene _ (by omega) (by omega), hq]) (by rw [e12, e5, hB]; omega) (by rw [e12, ene _ (by omega) (by omega), ene _ (by omega) (by omega), hq]) (fun k a1 _ a3 _ => ene k a1 a3) k
    · have z12 : w (12 + 4 * t) = 0 := by omega
      by_cases c2 : 0 < w (10 + 4 * t)
      · have v := nb_Vm hV (k := 10 + 4 * t) (d := 1) (by omega) c2
        have v2 := nb_Vp v (k := 4) (by decide) 1
        have e10 : gw_p (gw_m w (10 + 4 * t) 1) 4 1 (10 + 4 * t) = w (10 + 4 * t) - 1 := by rw [gw_pne _ _ (by omega), gw_mat]
        have ene : ∀ k, k ≠ 10 + 4 * t → k ≠ 4 → gw_p (gw_m w (10 + 4 * t) 1) 4 1 k = w k := fun k a1 a2 => by rw [gw_pne _ _ a2, gw_mne _ _ a1]
        have e4 : gw_p (gw_m w (10 + 4 * t) 1) 4 1 4 = w 4 + 1 := by rw [gw_pat, gw_mne _ _ (by omega)]
        obtain ⟨τ2, a, b, d⟩ := ih f _ _ (by omega) (by omega) v2 (fun q hq => by
          obtain ⟨q1, q2⟩ := hb q hq
          refine ⟨?_, by rw [ene _ (by omega) (by omega)]; exact q2⟩
          by_cases e : q = t
          · rw [e, e10]
            omega
          · rw [ene _ (by omega) (by omega)]
            exact q1) (by
          rw [ene _ (by omega) (by omega)]
          exact h1)
        refine ⟨τ2, ?_, nb_Vx b (fun k hk => ?_), nb_F0tr (nb_F0u _ _ _) (nb_F0tr (nb_F0u _ _ _) d)⟩
        · rw [f_X8_hails_L29, if_pos (nb_pos (by omega) (by omega)), nb_at2, nb_bnd, nb_grd (nb_i79 (by omega)), nb_t79 (by omega), hV (12 + 4 * t) (by omega), z12, if_neg nb_npos, nb_at0, nb_bnd, nb_grd (nb_i79 (by omega)), nb_t79 (by omega), hV (10 + 4 * t) (by omega), if_pos (nb_pos c2 (by omega)), nb_bnd, nb_grd (nb_i79 (by omega)), nb_let, nb_let, nb_t79 (by omega), nb_dec]
          exact a
        · have hB := gh_bs (n := n) c2
          have hl := gh_ble n (w (10 + 4 * t) - 1)
          exact gh_cx ht (by rw [ene _ (by omega) (by omega), z12, gh_bz, gh_bz]) (by rw [ene (12 + 4 * t) (by omega) (by omega), e10, z12, gh_bz, gh_bz, Nat.sub_zero, Nat.sub_zero, hB]; omega) (by rw [ene (12 + 4 * t) (by omega) (by omega), ene 5 (by omega) (by omega), z12, gh_bz, gh_bz]) (by rw [ene (12 + 4 * t) (by omega) (by omega), e10, e4, z12, gh_bz, gh_bz, Nat.sub_zero, Nat.sub_zero, hB]; omega) (fun k _ a2 _ a4 => ene k a2 a4) k
      · have z10 : w (10 + 4 * t) = 0 := by omega
        obtain ⟨τ2, a, b, d⟩ := ih f τ w (by omega) (by omega) hV hb h1
        refine ⟨τ2, ?_, nb_Vx b (fun k hk => ?_), d⟩
        · rw [f_X8_hails_L29, if_pos (nb_pos (by omega) (by omega)), nb_at2, nb_bnd, nb_grd (nb_i79 (by omega)), nb_t79 (by omega), hV (12 + 4 * t) (by omega), z12, if_neg nb_npos, nb_at0, nb_bnd, nb_grd (nb_i79 (by omega)), nb_t79 (by omega), hV (10 + 4 * t) (by omega), z10, if_neg nb_npos, nb_dec]
          exact a
        · exact gh_cx ht (by rw [z12, gh_bz, gh_bz]) (by rw [z10, gh_bz, gh_bz]) (by rw [z12, gh_bz, gh_bz]) (by rw [z10, gh_bz, gh_bz]) (fun _ _ _ _ _ => rfl) k
def gh_w (w : Nat → Nat) (t : Nat) : Nat → Nat := if w (13 + 4 * t) = 0 then w else gh_c w t ((w (13 + 4 * t) + 4) / 5)
theorem gh_hails {τ : sg_S} {w : Nat → Nat} {t : Nat} (ht : t < 5) (hV : nb_V (τ 1) w) (hb : ∀ q, q < 5 → w (10 + 4 * q) < 1000000 ∧ w (12 + 4 * q) < 1000000) (h13 : w (13 + 4 * t) ≤ 4000) : ∃ τ2, f_X8_hails (nb t) τ = some τ2 ∧ nb_V (τ2 1) (gh_w w t) ∧ nb_F0 τ τ2 := by
  unfold f_X8_hails gh_w
  rw [nb_at3, nb_bnd, nb_grd (nb_i79 (by omega)), nb_t79 (by omega), hV (13 + 4 * t) (by omega)]
  by_cases c : w (13 + 4 * t) = 0
  · rw [if_pos (show nb (w (13 + 4 * t)) = 0 by rw [c]; try rfl), if_pos c]
    exact ⟨τ, rfl, hV, nb_F0rf τ⟩
  · have e : (nb (w (13 + 4 * t)) + 4) / 5 = nb ((w (13 + 4 * t) + 4) / 5) := by
      show (nb (w (13 + 4 * t)) + nb 4) / nb 5 = _
      rw [nb_add, nb_div (by omega) (by decide)]
    obtain ⟨τ2, a, b, d⟩ := gh_ref ht ((w (13 + 4 * t) + 4) / 5) 1000 τ w (by omega) (by omega) hV hb (by omega)
    refine ⟨τ2, ?_, ?_, d⟩
    · rw [if_neg (show ¬ nb (w (13 + 4 * t)) = 0 from nb_ne (b := 0) c (by omega) (by decide)), nb_bnd, nb_grd (nb_i79 (by omega)), nb_t79 (by omega), hV (13 + 4 * t) (by omega), e, nb_let]
      exact a
    · rw [if_neg c]
      exact b
theorem gh_class {ρ : sg_S} {w : Nat → Nat} {t : Nat} (hN : nb_N ρ w) (ht : t < 5) (hb : ∀ q, q < 5 → w (10 + 4 * q) < 1000000 ∧ w (12 + 4 * q) < 1000000) (h1 : 1 ≤ w (13 + 4 * t)) (h13 : w (13 + 4 * t) ≤ 4000) : ∃ ρ2, f_X3_letHail (nb t) ρ = some ρ2 ∧ nb_N ρ2 (gh_w w t) ∧ (∀ p, 8 ≤ p → p < 12 → ρ2 p = ρ p) := by
  obtain ⟨b1, b2⟩ := hb t ht
  have hbu : gh_b ((w (13 + 4 * t) + 4) / 5) (w (12 + 4 * t)) ≤ w (12 + 4 * t) := by
    unfold gh_b
    split <;> omega
  have hbn : gh_b ((w (13 + 4 * t) + 4) / 5) (w (12 + 4 * t)) ≤ (w (13 + 4 * t) + 4) / 5 := by
    unfold gh_b
    split <;> omega
  have hbs : gh_b ((w (13 + 4 * t) + 4) / 5 - gh_b ((w (13 + 4 * t) + 4) / 5) (w (12 + 4 * t))) (w (10 + 4 * t)) ≤ w (10 + 4 * t) := by
    unfold gh_b
    repeat' split
    all_goals omega
  have n1 := nb_Nm hN (p := 3) (k := t) (j := 12 + 4 * t) (by unfold nb_lk; omega) hbu
  have n2 := nb_Nm n1 (p := 1) (k := t) (j := 10 + 4 * t) (d := gh_b ((w (13 + 4 * t) + 4) / 5 - gh_b ((w (13 + 4 * t) + 4) / 5) (w (12 + 4 * t))) (w (10 + 4 * t))) (by unfold nb_lk; omega) (by rw [gw_mne _ _ (by omega)]; exact hbs)
  have n3 := nb_Nm n2 (p := 4) (k := t) (j := 13 + 4 * t) (d := 1) (by unfold nb_lk; omega) (by rw [gw_mne _ _ (by omega), gw_mne _ _ (by omega)]; exact h1)
  have n4 := nb_Np n3 (p := 12) (k := 4) (j := 5) (by unfold nb_lk; omega) (gh_b ((w (13 + 4 * t) + 4) / 5) (w (12 + 4 * t)))
  have n5 := nb_Np n4 (p := 12) (k := 3) (j := 4) (by unfold nb_lk; omega) (gh_b ((w (13 + 4 * t) + 4) / 5 - gh_b ((w (13 + 4 * t) + 4) / 5) (w (12 + 4 * t))) (w (10 + 4 * t)))
  refine ⟨_, ?_, nb_Nx (w2 := gh_w w t) n5 (fun k hk _ => ?_) (fun _ _ _ => rfl), fun p h8 h12 => ?_⟩
  · have e1 : (nb (w (13 + 4 * t)) + 5 - 1) / 5 = nb ((w (13 + 4 * t) + 4) / 5) := by
      show (nb (w (13 + 4 * t)) + nb 5 - nb 1) / nb 5 = _
      rw [nb_add, nb_sub (by omega), nb_div (by omega) (by decide), (by omega : w (13 + 4 * t) + 5 - 1 = w (13 + 4 * t) + 4)]
    have em : ∀ a b : Nat, a < 2147483648 → b < 2147483648 → (if nb b < nb a then nb b else nb a) = nb (gh_b a b) := by
      intro a b ha hb
      unfold gh_b
      by_cases c : b < a
      · rw [if_pos c, if_pos (nb_lt_t c ha)]
      · rw [if_neg c, if_neg (nb_lt_f (by omega) hb)]
    have e3 : ρ 3 t = nb (w (12 + 4 * t)) := nb_g3 hN ht
    have e1r : ρ 1 t = nb (w (10 + 4 * t)) := nb_g1 hN ht
    have e4 : ρ 4 t = nb (w (13 + 4 * t)) := nb_g4 hN ht
    unfold f_X3_letHail
    rw [(nb_townE ht).1, nb_bnd, if_neg nb_10, nb_grd (nb_i5 ht), nb_t5 ht, e4, e1, nb_let]
    have f1 : (if ρ 3 t < nb ((w (13 + 4 * t) + 4) / 5) then ρ 3 t else nb ((w (13 + 4 * t) + 4) / 5)) = nb (gh_b ((w (13 + 4 * t) + 4) / 5) (w (12 + 4 * t))) := by
      rw [e3]
      exact em _ _ (by omega) (by omega)
    rw [f1, nb_let, nb_sub hbn]
    have f2 : (if ρ 1 t < nb ((w (13 + 4 * t) + 4) / 5 - gh_b ((w (13 + 4 * t) + 4) / 5) (w (12 + 4 * t))) then ρ 1 t else nb ((w (13 + 4 * t) + 4) / 5 - gh_b ((w (13 + 4 * t) + 4) / 5) (w (12 + 4 * t)))) = nb (gh_b ((w (13 + 4 * t) + 4) / 5 - gh_b ((w (13 + 4 * t) + 4) / 5) (w (12 + 4 * t))) (w (10 + 4 * t))) := by
      rw [e1r]
      exact em _ _ (by omega) (by omega)
    rw [f2, nb_let, nb_let, nb_let, nb_let, nb_let, nb_let]
    try rfl
  · unfold gh_w
    rw [if_neg (by omega)]
    unfold gh_c gw_p gw_m
    repeat' split
    all_goals omega
  · funext k
    rw [nb_up, if_neg (by omega), nb_up, if_neg (by omega), nb_up, if_neg (by omega), nb_up, if_neg (by omega), nb_up, if_neg (by omega)]
theorem gh_ne {w : Nat → Nat} {t x : Nat} (hx : x ≠ 12 + 4 * t ∧ x ≠ 10 + 4 * t ∧ x ≠ 13 + 4 * t ∧ x ≠ 5 ∧ x ≠ 4) : gh_w w t x = w x := by
  unfold gh_w
  by_cases c : w (13 + 4 * t) = 0
  · rw [if_pos c]
  · rw [if_neg c]
    unfold gh_c
    rw [if_neg (by omega), if_neg (by omega), if_neg (by omega), if_neg (by omega), if_neg (by omega)]
theorem gh_le {w : Nat → Nat} {t x : Nat} (hx : 10 ≤ x) : gh_w w t x ≤ w x := by
  unfold gh_w
  by_cases c : w (13 + 4 * t) = 0
  · rw [if_pos c]
    exact Nat.le_refl _
  · rw [if_neg c]
    unfold gh_c
    repeat' split
    all_goals omega
/-! sun -/
def gn_d (s g : Nat) : Nat := if 60 - g < s then 60 - g else s
def gn_w (w : Nat → Nat) (t s : Nat) : Nat → Nat := gw_m (gw_p (gw_p w (10 + 4 * t) (gn_d s (w (10 + 4 * t)))) 2 (gn_d s (w (10 + 4 * t)))) (11 + 4 * t) 3
theorem gn_dle (s g : Nat) (h : g ≤ 60) : g + gn_d s g ≤ 60 := by
  unfold gn_d
  split <;> omega
theorem gn_max {r : Nat} (h : r < 1000000) : (if (0 : Int32) < nb r - 3 then nb r - 3 else 0) = nb (r - 3) := by
  by_cases c : 3 ≤ r
  · have e : nb r - 3 = nb (r - 3) := nb_sub (b := 3) c
    rw [e]
    by_cases d : 0 < r - 3
    · rw [if_pos (nb_pos d (by omega))]
    · rw [(by omega : r - 3 = 0), if_neg nb_npos]
      try rfl
  · have e : ¬ (0 : Int32) < nb r - 3 := by
      intro q
      have q2 := (nb_sp (a := r) (b := 3) (by omega) (by decide)).mpr (by omega)
      exact absurd q (Int32.not_lt.mpr q2)
    rw [if_neg e, (by omega : r - 3 = 0)]
    try rfl
theorem gn_class {ρ : sg_S} {w : Nat → Nat} {t s n : Nat} {z1 : Int32} (hN : nb_N ρ w) (ht : t < 5) (hs : s < 1000) (h10 : w (10 + 4 * t) ≤ 60) (h11 : w (11 + 4 * t) ≤ 60) : ∃ ρ2, f_X3_pass_L60 (n + 1) z1 (nb s) (nb t) ρ = f_X3_pass_L60 n z1 (nb s) (nb (t + 1)) ρ2 ∧ nb_N ρ2 (gn_w w t s) ∧ (∀ p, 8 ≤ p → p < 12 → ρ2 p = ρ p) := by
  have n1 := nb_Np hN (p := 1) (k := t) (j := 10 + 4 * t) (by unfold nb_lk; omega) (gn_d s (w (10 + 4 * t)))
  have n2 := nb_Np n1 (p := 12) (k := 0) (j := 2) (by unfold nb_lk; omega) (gn_d s (w (10 + 4 * t)))
  have n3 := nb_Nu n2 (p := 2) (k := t) (j := 11 + 4 * t) (by unfold nb_lk; omega) (w (11 + 4 * t) - 3)
  refine ⟨_, ?_, nb_Nx (w2 := gn_w w t s) n3 (fun k hk _ => ?_) (fun _ _ _ => rfl), fun p h8 h12 => ?_⟩
  · have e1 : ρ 1 t = nb (w (10 + 4 * t)) := nb_g1 hN ht
    have e2 : ρ 2 t = nb (w (11 + 4 * t)) := nb_g2 hN ht
    have e3 : (60 : Int32) - nb (w (10 + 4 * t)) = nb (60 - w (10 + 4 * t)) := nb_sub (a := 60) h10
    have e4 : (if (60 : Int32) - ρ 1 t < nb s then (60 : Int32) - ρ 1 t else nb s) = nb (gn_d s (w (10 + 4 * t))) := by
      rw [e1, e3]
      unfold gn_d
      by_cases c : 60 - w (10 + 4 * t) < s
      · rw [if_pos c, if_pos (nb_lt_t c (by omega))]
      · rw [if_neg c, if_neg (nb_lt_f (by omega) (by omega))]
    rw [f_X3_pass_L60, if_pos (nb_lt5 ht), nb_grd (nb_i5 ht), nb_t5 ht, e4, nb_let, nb_let, nb_let]
    have e5 : sg_up (sg_up ρ 1 t (ρ 1 t + nb (gn_d s (w (10 + 4 * t))))) 12 0 (sg_up ρ 1 t (ρ 1 t + nb (gn_d s (w (10 + 4 * t)))) 12 0 + nb (gn_d s (w (10 + 4 * t)))) 2 t = nb (w (11 + 4 * t)) := by rw [nb_up, if_neg (by omega), nb_up, if_neg (by omega), e2]
    rw [e5, gn_max (by omega), nb_let, nb_succ]
  · unfold gn_w
    rw [gw_mE, gw_pne _ _ (by omega), gw_pne _ _ (by omega)]
  · funext k
    rw [nb_up, if_neg (by omega), nb_up, if_neg (by omega), nb_up, if_neg (by omega)]
theorem gn_ref {τ : sg_S} {w : Nat → Nat} {t s n : Nat} {z1 : Int32} (hV : nb_V (τ 1) w) (ht : t < 5) (hs : s < 1000) (h0 : w 0 < 10000) (h6 : τ 6 (w 0 % 12) = nb s) (h10 : w (10 + 4 * t) ≤ 60) (h11 : w (11 + 4 * t) ≤ 60) : ∃ τ2, f_X8_months_L35 (n + 1) z1 (nb t) τ = f_X8_months_L35 n z1 (nb (t + 1)) τ2 ∧ nb_V (τ2 1) (gn_w w t s) ∧ nb_F0 τ τ2 := by
  have v1 := nb_Vp hV (k := 10 + 4 * t) (by omega) (gn_d s (w (10 + 4 * t)))
  have v2 := nb_Vp v1 (k := 2) (by decide) (gn_d s (w (10 + 4 * t)))
  have v3 := nb_Vu v2 (11 + 4 * t) (w (11 + 4 * t) - 3)
  refine ⟨_, ?_, nb_Vx (w2 := gn_w w t s) v3 (fun k hk => ?_), nb_F0tr (nb_F0u _ _ _) (nb_F0tr (nb_F0u _ _ _) (nb_F0u _ _ _))⟩
  · have em : nb (w 0) - nb (w 0) / 12 * 12 = nb (w 0 % 12) := by
      show nb (w 0) - nb (w 0) / nb 12 * nb 12 = _
      rw [nb_div (by omega) (by decide), nb_mul, nb_sub (by omega), (by omega : w 0 - w 0 / 12 * 12 = w 0 % 12)]
    have e3 : (60 : Int32) - nb (w (10 + 4 * t)) = nb (60 - w (10 + 4 * t)) := nb_sub (a := 60) h10
    have e11 : sg_up (sg_up τ 1 (10 + 4 * t) (τ 1 (10 + 4 * t) + nb (gn_d s (w (10 + 4 * t))))) 1 2 (sg_up τ 1 (10 + 4 * t) (τ 1 (10 + 4 * t) + nb (gn_d s (w (10 + 4 * t)))) 1 2 + nb (gn_d s (w (10 + 4 * t)))) 1 (11 + 4 * t) = nb (w (11 + 4 * t)) := by rw [nb_up, if_neg (by omega), nb_up, if_neg (by omega), hV (11 + 4 * t) (by omega)]
    have J2 : ∀ (κ : Int32 → Int32 → sg_S → Option (Int32 × sg_S)), f_X8_months_J114 κ z1 (nb t) (nb (gn_d s (w (10 + 4 * t)))) (sg_up τ 1 (10 + 4 * t) (τ 1 (10 + 4 * t) + nb (gn_d s (w (10 + 4 * t)))) 1 2) 2 (sg_up τ 1 (10 + 4 * t) (τ 1 (10 + 4 * t) + nb (gn_d s (w (10 + 4 * t))))) = κ z1 (nb (t + 1)) (sg_up (sg_up (sg_up τ 1 (10 + 4 * t) (τ 1 (10 + 4 * t) + nb (gn_d s (w (10 + 4 * t))))) 1 2 (sg_up τ 1 (10 + 4 * t) (τ 1 (10 + 4 * t) + nb (gn_d s (w (10 + 4 * t)))) 1 2 + nb (gn_d s (w (10 + 4 * t))))) 1 (11 + 4 * t) (nb (w (11 + 4 * t) - 3))) := by
      intro κ
      have t2 : (2 : Int32).toNatClampNeg = 2 := by decide
      rw [f_X8_months_J114, nb_grd (by decide), t2, nb_let, nb_at1, nb_bnd, nb_bnd, nb_grd (nb_i79 (by omega)), nb_t79 (by omega), e11, nb_succ]
      by_cases c : 3 < w (11 + 4 * t)
      · rw [if_pos (show (3 : Int32) < nb (w (11 + 4 * t)) from nb_lt_t (a := 3) c (by omega)), nb_bnd, nb_grd (nb_i79 (by omega)), nb_grd (nb_i79 (by omega)), nb_let, nb_t79 (by omega), e11, show nb (w (11 + 4 * t)) - 3 = nb (w (11 + 4 * t) - 3) from nb_sub (b := 3) (by omega)]
      · rw [if_neg (show ¬ (3 : Int32) < nb (w (11 + 4 * t)) from nb_lt_f (a := 3) (by omega) (by decide)), nb_grd (nb_i79 (by omega)), nb_let, (by omega : w (11 + 4 * t) - 3 = 0)]
        try rfl
    have t12 : sg_in (nb (w 0 % 12)) 12 = true := nb_in (by omega) (by decide)
    rw [f_X8_months_L35, if_pos (nb_lt5 ht), hV 0 (by decide), em, nb_grd t12, nb_tn (by omega), h6, nb_let, nb_at0, nb_bnd, nb_grd (nb_i79 (by omega)), nb_t79 (by omega)]
    have e60 : (60 : Int32) - τ 1 (10 + 4 * t) = nb (60 - w (10 + 4 * t)) := by rw [hV (10 + 4 * t) (by omega), e3]
    rw [e60, nb_let, nb_bnd, nb_grd (nb_i79 (by omega))]
    by_cases c : s < 60 - w (10 + 4 * t)
    · have ed : gn_d s (w (10 + 4 * t)) = s := by
        unfold gn_d
        rw [if_neg (by omega)]
      rw [ed] at J2 ⊢
      rw [if_pos (nb_lt_t c (by omega)), f_X8_months_J93, nb_grd (nb_i79 (by omega)), nb_t79 (by omega), nb_let, if_pos (nb_lt_t c (by omega))]
      exact J2 _
    · have ed : gn_d s (w (10 + 4 * t)) = 60 - w (10 + 4 * t) := by
        unfold gn_d
        by_cases d : 60 - w (10 + 4 * t) < s
        · rw [if_pos d]
        · rw [if_neg d]
          omega
      rw [ed] at J2 ⊢
      rw [if_neg (nb_lt_f (by omega) (by omega)), f_X8_months_J93, nb_grd (nb_i79 (by omega)), nb_t79 (by omega), nb_let, if_neg (nb_lt_f (by omega) (by omega))]
      exact J2 _
  · unfold gn_w
    rw [gw_mE, gw_pne _ _ (by omega), gw_pne _ _ (by omega)]
theorem gn_ne {w : Nat → Nat} {t s x : Nat} (hx : x ≠ 10 + 4 * t ∧ x ≠ 2 ∧ x ≠ 11 + 4 * t) : gn_w w t s x = w x := by
  unfold gn_w
  rw [gw_mne _ _ (by omega), gw_pne _ _ (by omega), gw_pne _ _ (by omega)]
