/-! PASS: a month in the class and in the reference -/
def gi_I (m : Nat) (w : Nat → Nat) : Prop := (w 0 ≤ m ∧ ge_E m w) ∧ gs_J w (w 1)
def ge_H (w w2 : Nat → Nat) (d : Nat) : Prop := ge_s w2 + w2 4 = ge_s w + w 4 ∧ (w2 2 = w 2 ∧ w2 3 = w 3 ∧ w2 6 = w 6 ∧ w2 7 = w 7 ∧ w2 8 = w 8 ∧ w2 9 = w 9) ∧ w2 4 ≤ w 4 + 60 * d ∧ w2 5 ≤ w 5 + 60 * d
def ge_G (w w2 : Nat → Nat) (d : Nat) : Prop := ge_s w2 + w 2 = ge_s w + w2 2 ∧ (w2 3 = w 3 ∧ w2 4 = w 4 ∧ w2 5 = w 5 ∧ w2 6 = w 6 ∧ w2 7 = w 7 ∧ w2 8 = w 8 ∧ w2 9 = w 9) ∧ w2 2 ≤ w 2 + 60 * d
theorem ge_Ht {w w2 w3 : Nat → Nat} {d e : Nat} (h : ge_H w w2 d) (h2 : ge_H w2 w3 e) : ge_H w w3 (e + d) := by
  obtain ⟨a1, ⟨a2, a3, a4, a5, a6, a7⟩, a8, a9⟩ := h
  obtain ⟨b1, ⟨b2, b3, b4, b5, b6, b7⟩, b8, b9⟩ := h2
  exact ⟨by omega, ⟨by omega, by omega, by omega, by omega, by omega, by omega⟩, by omega, by omega⟩
theorem ge_Gt {w w2 w3 : Nat → Nat} {d e : Nat} (h : ge_G w w2 d) (h2 : ge_G w2 w3 e) : ge_G w w3 (e + d) := by
  obtain ⟨a1, ⟨a2, a3, a4, a5, a6, a7, a8⟩, a9⟩ := h
  obtain ⟨b1, ⟨b2, b3, b4, b5, b6, b7, b8⟩, b9⟩ := h2
  exact ⟨by omega, ⟨by omega, by omega, by omega, by omega, by omega, by omega, by omega⟩, by omega⟩
theorem ge_Hz {w : Nat → Nat} {t : Nat} (ht : t < 5) (h10 : w (10 + 4 * t) ≤ 60) (h12 : w (12 + 4 * t) ≤ 9) : ge_H w (gh_w w t) 1 := by
  unfold gh_w
  by_cases c : w (13 + 4 * t) = 0
  · rw [if_pos c]
    exact ⟨rfl, ⟨rfl, rfl, rfl, rfl, rfl, rfl⟩, by omega, by omega⟩
  · rw [if_neg c]
    generalize (w (13 + 4 * t) + 4) / 5 = N
    have b1 := gh_ble N (w (12 + 4 * t))
    have b2 := gh_ble (N - gh_b N (w (12 + 4 * t))) (w (10 + 4 * t))
    have oth : ∀ x, x < 10 → x ≠ 4 → x ≠ 5 → gh_c w t N x = w x := fun x h1 h2 h3 => by
      unfold gh_c
      rw [if_neg (by omega), if_neg (by omega), if_neg (by omega), if_neg h3, if_neg h2]
    have e4 : gh_c w t N 4 = w 4 + gh_b (N - gh_b N (w (12 + 4 * t))) (w (10 + 4 * t)) := by
      unfold gh_c
      rw [if_neg (by omega), if_neg (by omega), if_neg (by omega), if_neg (by decide), if_pos rfl]
    have e5 : gh_c w t N 5 = w 5 + gh_b N (w (12 + 4 * t)) := by
      unfold gh_c
      rw [if_neg (by omega), if_neg (by omega), if_neg (by omega), if_pos rfl]
    have hs := ge_su (w := w) (w2 := gh_c w t N) ht (v := w (10 + 4 * t) - gh_b (N - gh_b N (w (12 + 4 * t))) (w (10 + 4 * t))) (fun q hq => by
      unfold gh_c
      by_cases d : q = t
      · subst d
        rw [if_neg (by omega), if_pos rfl, if_pos rfl]
      · rw [if_neg (by omega), if_neg (by omega), if_neg (by omega), if_neg (by omega), if_neg (by omega), if_neg d])
    have hl := ge_le (w := w) ht
    exact ⟨by omega, ⟨oth 2 (by decide) (by decide) (by decide), oth 3 (by decide) (by decide) (by decide), oth 6 (by decide) (by decide) (by decide), oth 7 (by decide) (by decide) (by decide), oth 8 (by decide) (by decide) (by decide), oth 9 (by decide) (by decide) (by decide)⟩, by omega, by omega⟩
theorem ge_Gz {w : Nat → Nat} {t s : Nat} (ht : t < 5) (h10 : w (10 + 4 * t) ≤ 60) : ge_G w (gn_w w t s) 1 := by
  have dd := gn_dle s (w (10 + 4 * t)) h10
  have oth : ∀ x, x < 10 → x ≠ 2 → gn_w w t s x = w x := fun x h1 h2 => gn_ne (by omega)
  have e2 : gn_w w t s 2 = w 2 + gn_d s (w (10 + 4 * t)) := by
    unfold gn_w
    rw [gw_mne _ _ (by omega), gw_pat, gw_pne _ _ (by omega)]
  have hs := ge_su (w := w) (w2 := gn_w w t s) ht (v := w (10 + 4 * t) + gn_d s (w (10 + 4 * t))) (fun q hq => by
    by_cases d : q = t
    · subst d
      unfold gn_w
      rw [if_pos rfl, gw_mne _ _ (by omega), gw_pne _ _ (by omega), gw_pat]
    · rw [if_neg d, gn_ne (by omega)])
  exact ⟨by omega, ⟨oth 3 (by decide) (by decide), oth 4 (by decide) (by decide), oth 5 (by decide) (by decide), oth 6 (by decide) (by decide), oth 7 (by decide) (by decide), oth 8 (by decide) (by decide), oth 9 (by decide) (by decide)⟩, by omega⟩
theorem ge_pass {m : Nat} {w w1 wa wb wc : Nat → Nat} {d : Nat} (hE : ge_E m w) (h1 : ∀ x, x ≠ 0 → w1 x = w x) (hd : d ≤ 8) (hT : ge_T w1 wa d) (hH : ge_H wa wb 5) (hG : ge_G wb wc 5) (hb : wb 1 = wa 1) (hc : wc 1 = wb 1) : ge_E (m + 1) wc := by
  obtain ⟨a, b, c, d1, d2, d3, d4, d5, d6⟩ := hE
  obtain ⟨e1, e2, e3, e4, e5, e6, e7, e8, e9, e10⟩ := hT
  obtain ⟨f1, ⟨f2, f3, f4, f5, f6, f7⟩, f8, f9⟩ := hH
  obtain ⟨g1, ⟨g2, g3, g4, g5, g6, g7, g8⟩, g9⟩ := hG
  have s1 : ge_s w1 = ge_s w := ge_sx (fun q hq => h1 _ (by omega))
  have k1 := h1 1 (by decide)
  have k2 := h1 2 (by decide)
  have k3 := h1 3 (by decide)
  have k4 := h1 4 (by decide)
  have k5 := h1 5 (by decide)
  have k6 := h1 6 (by decide)
  have k7 := h1 7 (by decide)
  have k8 := h1 8 (by decide)
  have k9 := h1 9 (by decide)
  have e6' := e6 (by omega)
  exact ⟨by omega, by omega, by omega, by omega, by omega, by omega, by omega, by omega, by omega⟩
theorem gn_R {ρ ρ2 : sg_S} {w w2 : Nat → Nat} (h : nb_R ρ w) (hN : nb_N ρ2 w2) (hf : ∀ p, 8 ≤ p → p < 12 → ρ2 p = ρ p) (h8 : w 1 ≤ 8) (h1 : w2 1 = w 1) (hc : ∀ x, 55 ≤ x → w2 x = w x) : nb_R ρ2 w2 := by
  refine ⟨hN, nb_Cx h.2 h8 (fun k _ hk => ?_) (fun p k hp => ?_)⟩
  · rcases hk with e | e
    · rw [e, h1]
    · exact (hc k e).symm
  · show ρ (8 + p) k = ρ2 (8 + p) k
    rw [hf (8 + p) (by omega) (by omega)]
theorem gn_by {w w2 : Nat → Nat} (h1 : w2 1 = w 1) (hc : ∀ x, 55 ≤ x → w2 x = w x) (t : Nat) : gc_by w2 t = gc_by w t := by
  unfold gc_by
  rw [h1]
  exact gc_sx (fun c _ => by
    refine ⟨?_, hc _ (by omega)⟩
    show decide (w2 (55 + 3 * c) = t) = decide (w (55 + 3 * c) = t)
    rw [hc (55 + 3 * c) (by omega)])
theorem gn_J {w w2 : Nat → Nat} {k : Nat} (h : gs_J w k) (hb : ∀ t, t < 5 → w2 (10 + 4 * t) ≤ 60 ∧ w2 (11 + 4 * t) ≤ 60 ∧ w2 (12 + 4 * t) ≤ 9 ∧ w2 (13 + 4 * t) ≤ w (13 + 4 * t)) (hx : ∀ x, x = 0 ∨ x = 1 ∨ 30 ≤ x → w2 x = w x) : gs_J w2 k := by
  obtain ⟨j1, j2, j3, j4, j5, j6, j7⟩ := h
  have e0 := hx 0 (by omega)
  have e1 := hx 1 (by omega)
  refine ⟨by omega, by omega, fun t ht => ?_, fun a b ha hb2 => ?_, fun t ht => ?_, fun c hc => ?_, fun c hc => ?_⟩
  · obtain ⟨b1, b2, b3, b4⟩ := hb t ht
    obtain ⟨c1, c2, c3, c4⟩ := j3 t ht
    rw [gn_by e1 (fun x h => hx x (by omega)) t]
    exact ⟨b1, b2, b3, by omega⟩
  · rw [hx _ (by omega), hx _ (by omega)]
    exact j4 a b ha hb2
  · rw [hx _ (by omega)]
    exact j5 t ht
  · rw [hx (55 + 3 * c) (by omega), hx (56 + 3 * c) (by omega), hx (57 + 3 * c) (by omega), e0]
    rw [e1] at hc
    exact j6 c hc
  · rw [hx _ (by omega), e0]
    exact j7 c hc
theorem gn_sun : ∀ j, j < 12 → sg_sun j = nb (([1, 1, 2, 3, 4, 5, 5, 4, 3, 2, 1, 1] : List Nat).getD j 0) ∧ ([1, 1, 2, 3, 4, 5, 5, 4, 3, 2, 1, 1] : List Nat).getD j 0 < 1000 := by decide +kernel
theorem gn_fm : ∀ m, m < 10000 → f_J9_floorMod_7cf53 (nb m) 12 = some (nb (m % 12)) := by
  intro m hm
  unfold f_J9_floorMod_7cf53
  have e : nb m - nb m / 12 * 12 = nb (m % 12) := by
    show nb m - nb m / nb 12 * nb 12 = _
    rw [nb_div (by omega) (by decide), nb_mul, nb_sub (by omega), (by omega : m - m / 12 * 12 = m % 12)]
  have x : ¬ (nb m ^^^ 12 < 0) := by
    have x2 : ∀ a : Int32, 0 ≤ a → ¬ (a ^^^ 12 < 0) := by
      intro a ha hx
      rw [Int32.le_iff_toInt_le] at ha
      rw [Int32.lt_iff_toInt_lt] at hx
      have z : (0 : Int32).toInt = 0 := by decide
      rw [z] at ha hx
      have ha2 : 0 ≤ a.toBitVec.toInt := ha
      have hx2 : (a.toBitVec ^^^ (12 : Int32).toBitVec).toInt < 0 := hx
      have h1 : a.toBitVec.msb = false := by
        rw [BitVec.msb_eq_toInt]
        exact decide_eq_false (by omega)
      have h2 : (a.toBitVec ^^^ (12 : Int32).toBitVec).msb = false := by
        rw [BitVec.msb_xor, h1]
        decide
      rw [BitVec.msb_eq_toInt] at h2
      exact absurd hx2 (of_decide_eq_false h2)
    exact x2 _ (nb_0le (by omega))
  rw [nb_grd (by decide), e, nb_let, if_neg x]
theorem gn_hail : ∀ (m n1 n2 i : Nat) (z : Int32) (ρ τ : sg_S) (w : Nat → Nat), i + m = 5 → m < n1 → m < n2 → nb_R ρ w → nb_V (τ 1) w → gs_J w (w 1) → ∃ ρ2 τ2 w2, f_X3_pass_L17 n1 z (nb i) ρ = f_X3_pass_L17 (n1 - m) z (nb 5) ρ2 ∧ f_X8_months_L17 n2 z (nb i) τ = f_X8_months_L17 (n2 - m) z (nb 5) τ2 ∧ nb_R ρ2 w2 ∧ nb_V (τ2 1) w2 ∧ gs_J w2 (w2 1) ∧ nb_F0 τ τ2 ∧ (∀ x, x = 0 ∨ x = 1 ∨ 30 ≤ x → w2 x = w x) ∧ ge_H w w2 m := by
  intro m
  induction m with
  | zero =>
    intro n1 n2 i z ρ τ w h h1 h2 hR hV hJ
    have e : i = 5 := by omega
    subst e
    exact ⟨ρ, τ, w, rfl, rfl, hR, hV, hJ, nb_F0rf τ, fun _ _ => rfl, ⟨rfl, ⟨rfl, rfl, rfl, rfl, rfl, rfl⟩, by omega, by omega⟩⟩
  | succ m ih =>
    intro n1 n2 i z ρ τ w h h1 h2 hR hV hJ
    obtain ⟨n1, rfl⟩ : ∃ k, n1 = k + 1 := ⟨n1 - 1, by omega⟩
    obtain ⟨n2, rfl⟩ : ∃ k, n2 = k + 1 := ⟨n2 - 1, by omega⟩
    have hi : i < 5 := by omega
    have hJ0 := hJ
    obtain ⟨j1, j2, j3, j4, j5, j6, j7⟩ := hJ
    have hb : ∀ q, q < 5 → w (10 + 4 * q) < 1000000 ∧ w (12 + 4 * q) < 1000000 := fun q hq => by
      obtain ⟨b1, b2, b3, b4⟩ := j3 q hq
      exact ⟨by omega, by omega⟩
    have h13 : w (13 + 4 * i) ≤ 4000 := by
      have := (j3 i hi).2.2.2
      omega
    obtain ⟨τa, ha, hva, hfa⟩ := gh_hails hi hV hb h13
    have hx : ∀ x, x = 0 ∨ x = 1 ∨ 30 ≤ x → gh_w w i x = w x := fun x h => gh_ne (by omega)
    have hJ2 : gs_J (gh_w w i) (gh_w w i 1) := by
      rw [hx 1 (by omega)]
      refine gn_J hJ0 (fun t ht => ?_) hx
      obtain ⟨b1, b2, b3, b4⟩ := j3 t ht
      have l1 := gh_le (w := w) (t := i) (x := 10 + 4 * t) (by omega)
      have l2 := gh_le (w := w) (t := i) (x := 11 + 4 * t) (by omega)
      have l3 := gh_le (w := w) (t := i) (x := 12 + 4 * t) (by omega)
      have l4 := gh_le (w := w) (t := i) (x := 13 + 4 * t) (by omega)
      exact ⟨by omega, by omega, by omega, l4⟩
    have stepR : f_X8_months_L17 (n2 + 1) z (nb i) τ = f_X8_months_L17 n2 z (nb (i + 1)) τa := by
      rw [f_X8_months_L17, if_pos (nb_lt5 hi), ha, nb_bnd, nb_succ]
    have stepC : ∃ ρa, f_X3_pass_L17 (n1 + 1) z (nb i) ρ = f_X3_pass_L17 n1 z (nb (i + 1)) ρa ∧ nb_R ρa (gh_w w i) := by
      have e4 : ρ 4 i = nb (w (13 + 4 * i)) := nb_g4 hR.1 hi
      by_cases c : w (13 + 4 * i) = 0
      · refine ⟨ρ, ?_, ?_⟩
        · rw [f_X3_pass_L17, if_pos (nb_lt5 hi), nb_grd (nb_i5 hi), nb_t5 hi, e4, c, if_neg nb_npos, nb_succ]
        · unfold gh_w
          rw [if_pos c]
          exact hR
      · obtain ⟨ρa, a, b, d⟩ := gh_class hR.1 hi hb (by omega) h13
        refine ⟨ρa, ?_, gn_R hR b d j1 (hx 1 (by omega)) (fun x h => hx x (by omega))⟩
        rw [f_X3_pass_L17, if_pos (nb_lt5 hi), nb_grd (nb_i5 hi), nb_t5 hi, e4, if_pos (nb_pos (by omega) (by omega)), a, nb_bnd, nb_succ]
    obtain ⟨ρa, sC, hRa⟩ := stepC
    obtain ⟨ρ2, τ2, w2, y1, y2, y3, y4, y5, y6, y7, y8⟩ := ih n1 n2 (i + 1) z ρa τa (gh_w w i) (by omega) (by omega) (by omega) hRa hva hJ2
    refine ⟨ρ2, τ2, w2, ?_, ?_, y3, y4, y5, nb_F0tr hfa y6, fun x h => (y7 x h).trans (hx x h), ge_Ht (ge_Hz hi (j3 i hi).1 (j3 i hi).2.2.1) y8⟩
    · rw [sC, y1, (by omega : n1 + 1 - (m + 1) = n1 - m)]
    · rw [stepR, y2, (by omega : n2 + 1 - (m + 1) = n2 - m)]
theorem gn_shine : ∀ (m n1 n2 i s : Nat) (z : Int32) (ρ τ : sg_S) (w : Nat → Nat), i + m = 5 → m < n1 → m < n2 → nb_R ρ w → nb_V (τ 1) w → gs_J w (w 1) → s < 1000 → τ 6 (w 0 % 12) = nb s → ∃ ρ2 τ2 w2, f_X3_pass_L60 n1 z (nb s) (nb i) ρ = some (z, ρ2) ∧ f_X8_months_L35 n2 z (nb i) τ = some (z, τ2) ∧ nb_R ρ2 w2 ∧ nb_V (τ2 1) w2 ∧ gs_J w2 (w2 1) ∧ nb_F0 τ τ2 ∧ (∀ x, x = 0 ∨ x = 1 ∨ 30 ≤ x → w2 x = w x) ∧ ge_G w w2 m := by
  intro m
  induction m with
  | zero =>
    intro n1 n2 i s z ρ τ w h h1 h2 hR hV hJ hs h6
    obtain ⟨n1, rfl⟩ : ∃ k, n1 = k + 1 := ⟨n1 - 1, by omega⟩
    obtain ⟨n2, rfl⟩ : ∃ k, n2 = k + 1 := ⟨n2 - 1, by omega⟩
    have e : i = 5 := by omega
    subst e
    refine ⟨ρ, τ, w, ?_, ?_, hR, hV, hJ, nb_F0rf τ, fun _ _ => rfl, ⟨rfl, ⟨rfl, rfl, rfl, rfl, rfl, rfl, rfl⟩, by omega⟩⟩
    · rw [f_X3_pass_L60, if_neg nb_nlt5]
    · rw [f_X8_months_L35, if_neg nb_nlt5]
  | succ m ih =>
    intro n1 n2 i s z ρ τ w h h1 h2 hR hV hJ hs h6
    obtain ⟨n1, rfl⟩ : ∃ k, n1 = k + 1 := ⟨n1 - 1, by omega⟩
    obtain ⟨n2, rfl⟩ : ∃ k, n2 = k + 1 := ⟨n2 - 1, by omega⟩
    have hi : i < 5 := by omega
    have hJ0 := hJ
    obtain ⟨j1, j2, j3, j4, j5, j6, j7⟩ := hJ
    obtain ⟨b1, b2, b3, b4⟩ := j3 i hi
    obtain ⟨ρa, a1, a2, a3⟩ := gn_class (n := n1) (z1 := z) hR.1 hi hs b1 b2
    obtain ⟨τa, c1, c2, c3⟩ := gn_ref (n := n2) (z1 := z) hV hi hs j2 h6 b1 b2
    have hx : ∀ x, x = 0 ∨ x = 1 ∨ 30 ≤ x → gn_w w i s x = w x := fun x h => gn_ne (by omega)
    have hJ2 : gs_J (gn_w w i s) (gn_w w i s 1) := by
      rw [hx 1 (by omega)]
      refine gn_J hJ0 (fun t ht => ?_) hx
      obtain ⟨d1, d2, d3, d4⟩ := j3 t ht
      have dd := gn_dle s (w (10 + 4 * i)) b1
      refine ⟨?_, ?_, ?_, ?_⟩
      · by_cases e : t = i
        · subst e
          unfold gn_w
          rw [gw_mne _ _ (by omega), gw_pne _ _ (by omega), gw_pat]
          exact dd
        · rw [gn_ne (by omega)]
          exact d1
      · by_cases e : t = i
        · subst e
          unfold gn_w
          rw [gw_mat, gw_pne _ _ (by omega), gw_pne _ _ (by omega)]
          omega
        · rw [gn_ne (by omega)]
          exact d2
      · rw [gn_ne (by omega)]
        exact d3
      · rw [gn_ne (by omega)]
        exact Nat.le_refl _
    obtain ⟨ρ2, τ2, w2, y1, y2, y3, y4, y5, y6, y7, y8⟩ := ih n1 n2 (i + 1) s z ρa τa (gn_w w i s) (by omega) (by omega) (by omega) (gn_R hR a2 a3 j1 (hx 1 (by omega)) (fun x h => hx x (by omega))) c2 hJ2 hs (by
      rw [hx 0 (by omega), c3 6 _ (by decide) (by decide)]
      exact h6)
    exact ⟨ρ2, τ2, w2, a1.trans y1, c1.trans y2, y3, y4, y5, nb_F0tr c3 y6, fun x h => (y7 x h).trans (hx x h), ge_Gt (ge_Gz hi b1) y8⟩
theorem gn_pass {ρ τ : sg_S} {w : Nat → Nat} {m : Nat} (hR : nb_R ρ w) (hV : nb_V (τ 1) w) (hI : gi_I m w) (hm : m < 9000) (h6 : ∀ k, k < 12 → τ 6 k = sg_sun k) : ∃ r ρ2 τ2 w2, f_X3_pass ρ = some (nb r, ρ2) ∧ f_X8_months τ = some (nb r, τ2) ∧ nb_R ρ2 w2 ∧ nb_V (τ2 1) w2 ∧ gi_I (m + 1) w2 ∧ nb_F τ τ2 ∧ r ≤ 8 ∧ w2 0 = w 0 + 1 ∧ (1 ≤ w 1 → gs_L (gw_p w 0 1) w2 τ2) := by
  obtain ⟨⟨i0, iE⟩, hJ⟩ := hI
  have hJ0 := hJ
  obtain ⟨j1, j2, j3, j4, j5, j6, j7⟩ := hJ
  have hN1 := nb_Np hR.1 (p := 0) (k := 0) (j := 0) (by unfold nb_lk; omega) 1
  have hV1 := nb_Vp hV (k := 0) (by decide) 1
  have hx : ∀ x, x ≠ 0 → gw_p w 0 1 x = w x := fun x h => gw_pne w 1 h
  have e0 : gw_p w 0 1 0 = w 0 + 1 := gw_pat w 0 1
  have hR1 : nb_R (sg_up ρ 0 0 (ρ 0 0 + nb 1)) (gw_p w 0 1) := gn_R hR hN1 (fun p h8 h12 => by
    funext k
    rw [nb_up, if_neg (by omega)]) j1 (hx 1 (by omega)) (fun x h => hx x (by omega))
  have e1 := hx 1 (by omega)
  have hJ1 : gs_J (gw_p w 0 1) 0 := by
    refine ⟨by omega, by omega, fun t ht => ?_, fun a b ha hb => ?_, fun t ht => ?_, fun c hc => ?_, fun c hc => by omega⟩
    · rw [hx _ (by omega), hx _ (by omega), hx _ (by omega), hx _ (by omega), gn_by e1 (fun x h => hx x (by omega)) t]
      exact j3 t ht
    · rw [hx _ (by omega), hx _ (by omega)]
      exact j4 a b ha hb
    · rw [hx _ (by omega)]
      exact j5 t ht
    · rw [hx (55 + 3 * c) (by omega), hx (56 + 3 * c) (by omega), hx (57 + 3 * c) (by omega), e0]
      rw [e1] at hc
      obtain ⟨d1, d2, d3, d4, d5⟩ := j6 c hc
      have d6 := j7 c hc
      exact ⟨d1, d2, d3, by omega, by omega⟩
  have hM : gs_M (sg_e1 8 (sg_up ρ 0 0 (ρ 0 0 + nb 1))) (gw_p w 0 1) (w 1) 0 0 := by
    refine ⟨?_, by omega, Nat.le_refl 0, fun c hc => by omega, fun c _ hc => ?_⟩
    · have := hR1.2.1
      rw [e1] at this
      exact this
    · have := hR1.2.2 c (by omega)
      rw [(by omega : c + 0 - 0 = c)]
      exact this
  obtain ⟨ρa, τa, wa, r, s1, s2, s3, s4, s5, s6, s7, s8, _, s10, s11⟩ := gs_loop (w 1) 1000 1000 0 0 (w 1) 0 _ _ _ (by omega) (by omega) (by omega) j1 hN1 hM hV1 hJ1
  obtain ⟨ρb, τb, wb, t1, t2, t3, t4, t5, t6, t7, t8⟩ := gn_hail 5 1000 1000 0 (nb r) ρa τa wa (by omega) (by omega) (by omega) s3 s4 s5
  have hw0 : wb 0 = w 0 + 1 := by
    have := t7 0 (by omega)
    omega
  obtain ⟨g1, g2⟩ := gn_sun (wb 0 % 12) (by omega)
  have h6b : τb 6 (wb 0 % 12) = nb (([1, 1, 2, 3, 4, 5, 5, 4, 3, 2, 1, 1] : List Nat).getD (wb 0 % 12) 0) := by
    rw [t6 6 _ (by decide) (by decide), s6 6 _ (by decide) (by decide) (by omega), nb_up, if_neg (by omega), h6 _ (by omega), g1]
  obtain ⟨ρc, τc, wc, u1, u2, u3, u4, u5, u6, u7, u8⟩ := gn_shine 5 1000 1000 0 _ (nb r) ρb τb wb (by omega) (by omega) (by omega) t3 t4 t5 g2 h6b
  refine ⟨r, ρc, τc, wc, ?_, ?_, u3, u4, ⟨⟨by have := u7 0 (by omega); omega, ge_pass iE hx j1 s11 t8 u8 (t7 1 (by omega)) (u7 1 (by omega))⟩, u5⟩, nb_Ftr (nb_Fw (nb_F0u _ _ _)) (nb_Ftr s6 (nb_Ftr (nb_Fw t6) (nb_Fw u6))), by omega, by have := u7 0 (by omega); omega, fun h1 => ?_⟩
  · unfold f_X3_pass
    rw [nb_let]
    have q1 : f_X3_endCredits (sg_up ρ 0 0 (ρ 0 0 + 1)) = some (nb r, ρa) := s1
    rw [q1, nb_bnd2]
    refine t1.trans ?_
    have t12 : sg_in (nb (wb 0 % 12)) 12 = true := nb_in (by omega) (by decide)
    show f_X3_pass_L17 (994 + 1) (nb r) (nb 5) ρb = _
    rw [f_X3_pass_L17, if_neg nb_nlt5, nb_g0 t3.1, gn_fm (wb 0) t5.2.1, nb_bnd, nb_grd t12, nb_tn (by omega), g1, nb_let]
    exact u1
  · unfold f_X8_months
    rw [nb_let]
    have q2 : f_X8_settles (sg_up τ 1 0 (τ 1 0 + 1)) = some (nb r, τa) := s2
    rw [q2, nb_bnd2]
    refine t2.trans ?_
    show f_X8_months_L17 (994 + 1) (nb r) (nb 5) τb = _
    rw [f_X8_months_L17, if_neg nb_nlt5]
    exact u2
  · obtain ⟨a, b⟩ := s10 (by rw [e1]; exact h1)
    have f : ∀ x, x = 0 ∨ x = 1 ∨ 30 ≤ x → wc x = wa x := fun x h => (u7 x h).trans (t7 x h)
    refine ⟨fun c => ?_, fun c => ?_⟩
    · rw [f 1 (by omega), f _ (by omega), f _ (by omega)]
      exact a c
    · rw [u6 0 15 (by decide) (by decide), t6 0 15 (by decide) (by decide)]
      exact b c
