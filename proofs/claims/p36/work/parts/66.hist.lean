/-! BEGINS AND ENDS: the reference's history, the class's -/
theorem hs_begins (τ : sg_S) : ∃ τ1, f_X8_begins τ = some τ1 ∧ τ1 0 0 = 0 ∧ (∀ k, k < 79 → τ1 2 k = τ 1 k) ∧ (∀ p k, p ≠ 2 → ¬ (p = 0 ∧ k = 0) → τ1 p k = τ p k) := by
  obtain ⟨τa, e, h⟩ := hr_ly (τ := sg_up τ 0 0 0) (a := 2) (b := 1) (by decide)
  refine ⟨sg_m2 2 1 1 1 (sg_up τ 0 0 0) τa, ?_, ?_, fun k hk => ?_, fun p k hp h0 => ?_⟩
  · unfold f_X8_begins
    rw [nb_let, e, nb_bnd, nb_let]
  · rw [h, if_neg (by omega), nb_upE]
  · rw [h, if_pos ⟨rfl, hk⟩, nb_up, if_neg (by omega)]
  · rw [h, if_neg (fun c => hp c.1), nb_up, if_neg h0]
theorem hs_74 {x : Int32} {τ : sg_S} {c : Nat} (hc : c < 8) (h01 : τ 0 1 = nb c) : ∀ (m j f : Nat) (τ1 : sg_S), j + m = 79 → m < f → (∀ p k, τ1 p k = if p = 5 ∧ 79 * c ≤ k ∧ k < 79 * c + j then τ 2 (k - 79 * c) else τ p k) → ∃ τ2, f_X8_ends_L74 x f (nb j) τ1 = some (x, τ2) ∧ (∀ p k, τ2 p k = if p = 0 ∧ k = 1 then nb (c + 1) else if p = 5 ∧ 79 * c ≤ k ∧ k < 79 * c + 79 then τ 2 (k - 79 * c) else τ p k) := by
  intro m
  induction m with
  | zero =>
    intro j f τ1 h1 h2 h3
    obtain ⟨f, rfl⟩ : ∃ k, f = k + 1 := ⟨f - 1, by omega⟩
    have ej : j = 79 := by omega
    subst ej
    have e1 : τ1 0 1 = nb c := by rw [h3, if_neg (by omega), h01]
    rw [f_X8_ends_L74, if_neg (show ¬ nb 79 < (79 : Int32) by decide), e1, nb_let, nb_succ]
    refine ⟨_, rfl, fun p k => ?_⟩
    rw [nb_up, h3]
  | succ m ih =>
    intro j f τ1 h1 h2 h3
    obtain ⟨f, rfl⟩ : ∃ k, f = k + 1 := ⟨f - 1, by omega⟩
    have e1 : τ1 0 1 = nb c := by rw [h3, if_neg (by omega), h01]
    have e2 : nb c * 79 + nb j = nb (c * 79 + j) := by
      show nb c * nb 79 + nb j = _
      rw [nb_mul, nb_add]
    have e3 : sg_in (nb (c * 79 + j)) 632 = true := nb_in (by omega) (by decide)
    rw [f_X8_ends_L74, if_pos (show nb j < (79 : Int32) from nb_lt_t (b := 79) (by omega) (by decide)), nb_grd (nb_i79 (by omega)), e1, e2, nb_grd e3, nb_tn (a := c * 79 + j) (by omega), nb_t79 (i := j) (by omega), nb_let, nb_succ]
    refine ih (j + 1) f _ (by omega) (by omega) (fun p k => ?_)
    rw [nb_up]
    by_cases d : p = 5 ∧ k = c * 79 + j
    · rw [if_pos d, if_pos (by omega), h3, if_neg (by omega), d.2, (by omega : c * 79 + j - 79 * c = j)]
    · rw [if_neg d, h3]
      by_cases d2 : p = 5 ∧ 79 * c ≤ k ∧ k < 79 * c + j
      · rw [if_pos d2, if_pos (by omega)]
      · rw [if_neg d2, if_neg (by omega)]
theorem hs_34 {x : Int32} {τ : sg_S} : ∀ (m j f : Nat) (τ1 : sg_S), j + m = 553 → m < f → (∀ p k, τ1 p k = if p = 5 ∧ k < j then τ 5 (k + 79) else τ p k) → ∃ τ2, f_X8_ends_L34 x f (nb j) τ1 = f_X8_ends_L74 x 1000 0 τ2 ∧ (∀ p k, τ2 p k = if p = 0 ∧ k = 1 then τ 0 1 - 1 else if p = 5 ∧ k < 553 then τ 5 (k + 79) else τ p k) := by
  intro m
  induction m with
  | zero =>
    intro j f τ1 h1 h2 h3
    obtain ⟨f, rfl⟩ : ∃ k, f = k + 1 := ⟨f - 1, by omega⟩
    have ej : j = 553 := by omega
    subst ej
    have e1 : τ1 0 1 = τ 0 1 := by rw [h3, if_neg (by omega)]
    rw [f_X8_ends_L34, if_neg (show ¬ nb 553 < (553 : Int32) by decide), e1, nb_let]
    refine ⟨_, rfl, fun p k => ?_⟩
    rw [nb_up, h3]
  | succ m ih =>
    intro j f τ1 h1 h2 h3
    obtain ⟨f, rfl⟩ : ∃ k, f = k + 1 := ⟨f - 1, by omega⟩
    have e2 : nb j + 79 = nb (j + 79) := nb_add j 79
    have e3 : sg_in (nb (j + 79)) 632 = true := nb_in (by omega) (by decide)
    have e4 : sg_in (nb j) 632 = true := nb_in (by omega) (by decide)
    rw [f_X8_ends_L34, if_pos (show nb j < (553 : Int32) from nb_lt_t (b := 553) (by omega) (by decide)), e2, nb_grd e3, nb_grd e4, nb_tn (a := j) (by omega), nb_tn (a := j + 79) (by omega), nb_let, nb_succ]
    refine ih (j + 1) f _ (by omega) (by omega) (fun p k => ?_)
    rw [nb_up]
    by_cases d : p = 5 ∧ k = j
    · rw [if_pos d, if_pos (by omega), h3, if_neg (by omega), d.2]
    · rw [if_neg d, h3]
      by_cases d2 : p = 5 ∧ k < j
      · rw [if_pos d2, if_pos (by omega)]
      · rw [if_neg d2, if_neg (by omega)]
def hs_c (c : Nat) : Nat := if c < 8 then c + 1 else 8
theorem hs_ends {x : Int32} {τ : sg_S} {c : Nat} (hc : c ≤ 8) (h0 : τ 0 0 = 0) (h01 : τ 0 1 = nb c) : ∃ τ2, f_X8_ends x τ = some (x, τ2) ∧ τ2 0 1 = nb (hs_c c) ∧ (∀ k, k < 79 → τ2 5 (79 * (hs_c c - 1) + k) = τ 2 k) ∧ (∀ i k, i < hs_c c - 1 → k < 79 → τ2 5 (79 * i + k) = if c = 8 then τ 5 (79 * (i + 1) + k) else τ 5 (79 * i + k)) ∧ (∀ p k, p ≠ 5 → ¬ (p = 0 ∧ k = 1) → τ2 p k = τ p k) := by
  unfold f_X8_ends hs_c
  rw [if_pos h0, h01]
  by_cases e : c = 8
  · subst e
    obtain ⟨τ1, a, b⟩ := hs_34 (x := x) (τ := τ) 553 0 1000 τ (by decide) (by decide) (fun p k => by rw [if_neg (by omega)])
    have b01 : τ1 0 1 = nb 7 := by
      rw [b, if_pos ⟨rfl, rfl⟩, h01]
      exact nb_sub (a := 8) (b := 1) (by decide)
    obtain ⟨τ2, a2, b2⟩ := hs_74 (x := x) (τ := τ1) (c := 7) (by decide) b01 79 0 1000 τ1 (by decide) (by decide) (fun p k => by rw [if_neg (by omega)])
    rw [if_pos (by decide), if_neg (by decide)]
    refine ⟨τ2, a.trans a2, by rw [b2, if_pos ⟨rfl, rfl⟩], fun k hk => ?_, fun i k hi hk => ?_, fun p k hp h1 => ?_⟩
    · rw [b2, if_neg (by omega), if_pos (by omega), b, if_neg (by omega), if_neg (by omega), (by omega : 79 * (8 - 1) + k - 79 * 7 = k)]
    · rw [b2, if_neg (by omega), if_neg (by omega), b, if_neg (by omega), if_pos (by omega), if_pos rfl, (by omega : 79 * i + k + 79 = 79 * (i + 1) + k)]
    · rw [b2, if_neg h1, if_neg (by omega), b, if_neg h1, if_neg (by omega)]
  · obtain ⟨τ2, a2, b2⟩ := hs_74 (x := x) (τ := τ) (c := c) (by omega) h01 79 0 1000 τ (by decide) (by decide) (fun p k => by rw [if_neg (by omega)])
    rw [if_neg (show ¬ nb c = 8 from nb_ne (b := 8) e (by omega) (by decide)), if_pos (by omega)]
    refine ⟨τ2, a2, by rw [b2, if_pos ⟨rfl, rfl⟩], fun k hk => ?_, fun i k hi hk => ?_, fun p k hp h1 => ?_⟩
    · rw [b2, if_neg (by omega), if_pos (by omega), (by omega : 79 * (c + 1 - 1) + k - 79 * c = k)]
    · rw [b2, if_neg (by omega), if_neg (by omega), if_neg e]
    · rw [b2, if_neg h1, if_neg (by omega)]
theorem hs_endf {x r : Int32} {τ : sg_S} (h0 : τ 0 0 = r) (hr : r ≠ 0) : ∃ τ2, f_X8_ends x τ = some (r, τ2) ∧ (∀ p k, τ2 p k = if p = 1 ∧ k < 79 then τ 2 k else τ p k) := by
  obtain ⟨τa, e, h⟩ := hr_ly (τ := τ) (a := 1) (b := 2) (by decide)
  refine ⟨_, ?_, h⟩
  unfold f_X8_ends
  rw [if_neg (by rw [h0]; exact hr), e, nb_bnd, nb_let, h, if_neg (by omega), h0]
theorem hs_fm : ∀ s, s < 9 → f_J9_floorMod_7cf53 (nb s) 8 = some (nb (s % 8)) := by decide +kernel
theorem hs_fm1 : ∀ s, s < 8 → f_J9_floorMod_7cf53 (nb s - 1) 8 = some (nb ((s + 7) % 8)) := by decide +kernel
theorem hs_keep {κ : sg_S} {c s : Nat} (hc : c ≤ 8) (hs : s < 8) (h0 : κ 0 0 = nb c) (h1 : κ 0 1 = nb s) : ∃ κ2, f_X2_keep κ = some κ2 ∧ κ2 0 0 = nb (hs_c c) ∧ κ2 0 1 = nb ((s + 1) % 8) ∧ hr_M (sg_e1 106 κ) (sg_e1 (2 + 13 * s) κ2) ∧ (∀ p k, p ≠ 0 → ¬ (2 + 13 * s ≤ p ∧ p < 2 + 13 * s + 13) → κ2 p k = κ p k) := by
  obtain ⟨τ1, e, a, b⟩ := hr_cp (σ := κ) (o := 2 + 13 * s) (o2 := 106) (by omega)
  unfold f_X2_keep
  rw [h1, nb_grd (nb_i8 hs), nb_t8 hs, nb_let, e, nb_bnd, nb_let]
  generalize sg_m2 (2 + 13 * s) 13 106 13 κ τ1 = σ5 at a b
  have b0 : σ5 0 0 = nb c := (b 0 0 (by omega)).trans h0
  have b1 : σ5 0 1 = nb s := (b 0 1 (by omega)).trans h1
  rw [b1, nb_succ, hs_fm (s + 1) (by omega), nb_bnd, nb_let]
  have b0' : sg_up σ5 0 1 (nb ((s + 1) % 8)) 0 0 = nb c := by rw [nb_up, if_neg (by omega), b0]
  rw [b0', nb_succ, nb_let]
  refine ⟨_, rfl, ?_, ?_, fun p k hk => ?_, fun p k hp hq => ?_⟩
  · rw [nb_upE]
    unfold hs_c
    by_cases d : c < 8
    · rw [if_neg (show ¬ (8 : Int32) < nb (c + 1) from nb_lt_f (a := 8) (by omega) (by decide)), if_pos d]
    · rw [if_pos (show (8 : Int32) < nb (c + 1) from nb_lt_t (a := 8) (by omega) (by omega)), if_neg d]
      try rfl
  · rw [nb_up, if_neg (by omega), nb_upE]
  · rw [← a p k hk]
    show sg_up (sg_up σ5 0 1 _) 0 0 _ (2 + 13 * s + p) k = σ5 (2 + 13 * s + p) k
    rw [nb_up, if_neg (by omega), nb_up, if_neg (by omega)]
  · rw [nb_up, if_neg (by omega), nb_up, if_neg (by omega)]
    exact b p k hq
theorem hs_back {κ : sg_S} {c s : Nat} (hc : c ≤ 8) (hc1 : 1 ≤ c) (hs : s < 8) (h0 : κ 0 0 = nb c) (h1 : κ 0 1 = nb s) : ∃ κ2, f_X2_takeBack κ = some κ2 ∧ κ2 0 0 = nb (c - 1) ∧ κ2 0 1 = nb ((s + 7) % 8) ∧ hr_M (sg_e1 (2 + 13 * ((s + 7) % 8)) κ) (sg_e1 106 κ2) ∧ (∀ p k, 1 ≤ p → p < 106 → κ2 p k = κ p k) := by
  obtain ⟨τ1, e, a, b⟩ := hr_cp (σ := sg_up κ 0 1 (nb ((s + 7) % 8))) (o := 106) (o2 := 2 + 13 * ((s + 7) % 8)) (by omega)
  unfold f_X2_takeBack
  rw [h1, hs_fm1 s hs, nb_bnd, nb_let, nb_upE, nb_grd (nb_i8 (by omega)), nb_t8 (by omega), nb_let, e, nb_bnd, nb_let]
  generalize sg_m2 106 13 (2 + 13 * ((s + 7) % 8)) 13 (sg_up κ 0 1 (nb ((s + 7) % 8))) τ1 = σ8 at a b
  have b0 : σ8 0 0 = nb c := (b 0 0 (by omega)).trans (by rw [nb_up, if_neg (by omega), h0])
  have e1 : nb c - 1 = nb (c - 1) := nb_sub (b := 1) hc1
  rw [b0, e1, nb_let]
  refine ⟨_, rfl, nb_upE _ _ _ _, ?_, fun p k hk => ?_, fun p k hp hq => ?_⟩
  · rw [nb_up, if_neg (by omega), b 0 1 (by omega), nb_upE]
  · have := a p k hk
    have e2 : sg_e1 (2 + 13 * ((s + 7) % 8)) (sg_up κ 0 1 (nb ((s + 7) % 8))) p k = sg_e1 (2 + 13 * ((s + 7) % 8)) κ p k := by
      show sg_up κ 0 1 _ (2 + 13 * ((s + 7) % 8) + p) k = κ (2 + 13 * ((s + 7) % 8) + p) k
      rw [nb_up, if_neg (by omega)]
    rw [← e2, ← this]
    show sg_up σ8 0 0 _ (106 + p) k = σ8 (106 + p) k
    rw [nb_up, if_neg (by omega)]
  · rw [nb_up, if_neg (by omega), b p k (by omega), nb_up, if_neg (by omega)]
/-- what can be undone, in both -/
def hh_H (m : Nat) (κ τ : sg_S) : Prop := ∃ c s, c ≤ 8 ∧ s < 8 ∧ κ 0 0 = nb c ∧ κ 0 1 = nb s ∧ τ 0 1 = nb c ∧ ∀ i, i < c → ∃ w, nb_R (sg_e1 (2 + 13 * ((s + 8 - c + i) % 8)) κ) w ∧ (∀ k, k < 79 → τ 5 (79 * i + k) = nb (w k)) ∧ gi_I m w
theorem gi_mono {m m2 : Nat} {w : Nat → Nat} (h : gi_I m w) (hm : m ≤ m2) : gi_I m2 w := ⟨⟨Nat.le_trans h.1.1 hm, ge_mono h.1.2 hm⟩, h.2⟩
theorem hh_keep {m m2 : Nat} {κ κ2 τ τ2 : sg_S} {w : Nat → Nat} {c s : Nat} (hm : m ≤ m2) (hc : c ≤ 8) (hs : s < 8) (hrow : ∀ i, i < c → ∃ w, nb_R (sg_e1 (2 + 13 * ((s + 8 - c + i) % 8)) κ) w ∧ (∀ k, k < 79 → τ 5 (79 * i + k) = nb (w k)) ∧ gi_I m w) (hI : gi_I m w) (h0 : κ2 0 0 = nb (hs_c c)) (h1 : κ2 0 1 = nb ((s + 1) % 8)) (hnew : nb_R (sg_e1 (2 + 13 * s) κ2) w) (hold : ∀ p k, p ≠ 0 → ¬ (2 + 13 * s ≤ p ∧ p < 2 + 13 * s + 13) → κ2 p k = κ p k) (t1 : τ2 0 1 = nb (hs_c c)) (tn : ∀ k, k < 79 → τ2 5 (79 * (hs_c c - 1) + k) = nb (w k)) (to : ∀ i k, i < hs_c c - 1 → k < 79 → τ2 5 (79 * i + k) = if c = 8 then τ 5 (79 * (i + 1) + k) else τ 5 (79 * i + k)) : hh_H m2 κ2 τ2 := by
  have hcc : hs_c c ≤ 8 := by
    unfold hs_c
    split <;> omega
  refine ⟨hs_c c, (s + 1) % 8, hcc, by omega, h0, h1, t1, fun i hi => ?_⟩
  by_cases e : i = hs_c c - 1
  · have ei : ((s + 1) % 8 + 8 - hs_c c + i) % 8 = s := by omega
    rw [ei, e]
    exact ⟨w, hnew, tn, gi_mono hI hm⟩
  · have hi2 : i < hs_c c - 1 := by omega
    have old : ∀ j, j < 8 → j ≠ s → ∀ w2, nb_R (sg_e1 (2 + 13 * j) κ) w2 → w2 1 ≤ 8 → nb_R (sg_e1 (2 + 13 * j) κ2) w2 := fun j hj hjs w2 hR h8 => nb_Rx hR h8 (fun _ _ => rfl) (fun p k hp _ _ => (hold (2 + 13 * j + p) k (by omega) (by omega)).symm)
    by_cases c8 : c = 8
    · have ec : hs_c c = 8 := by
        unfold hs_c
        rw [if_neg (by omega)]
      obtain ⟨w2, r1, r2, r3⟩ := hrow (i + 1) (by omega)
      have ei : ((s + 1) % 8 + 8 - hs_c c + i) % 8 = (s + 8 - c + (i + 1)) % 8 := by omega
      rw [ei]
      refine ⟨w2, old _ (by omega) (by omega) w2 r1 r3.2.1, fun k hk => ?_, gi_mono r3 hm⟩
      rw [to i k hi2 hk, if_pos c8]
      exact r2 k hk
    · have ec : hs_c c = c + 1 := by
        unfold hs_c
        rw [if_pos (by omega)]
      obtain ⟨w2, r1, r2, r3⟩ := hrow i (by omega)
      have ei : ((s + 1) % 8 + 8 - hs_c c + i) % 8 = (s + 8 - c + i) % 8 := by omega
      rw [ei]
      refine ⟨w2, old _ (by omega) (by omega) w2 r1 r3.2.1, fun k hk => ?_, gi_mono r3 hm⟩
      rw [to i k hi2 hk, if_neg c8]
      exact r2 k hk
