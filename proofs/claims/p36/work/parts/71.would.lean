/-! WHAT WOULD BE: months on a trial, in both; the most credit that would be paid -/
def wp_C : Nat → sg_S → sg_S → Prop
  | 0, σ, σ2 => σ2 = σ
  | n + 1, σ, σ2 => ∃ r τ1, f_X3_pass (sg_e1 28 σ) = some (r, τ1) ∧ wp_C n (sg_m1 28 13 σ τ1) σ2
def wp_M : Nat → sg_S → sg_S → Prop
  | 0, τ, τ2 => τ2 = τ
  | n + 1, τ, τ2 => ∃ r τ1, f_X8_months τ = some (r, τ1) ∧ wp_M n τ1 τ2
/-- what the last credit of the trial is -/
def wp_T (w : Nat → Nat) (T D : Nat) : Prop := 1 ≤ w 1 ∧ w (55 + 3 * (w 1 - 1)) = T ∧ w (57 + 3 * (w 1 - 1)) = D
theorem wp_both : ∀ (n m : Nat) (σ τ : sg_S) (w : Nat → Nat), nb_R (sg_e1 28 σ) w → nb_V (τ 1) w → gi_I m w → m + n < 9000 → (∀ k, k < 12 → τ 6 k = sg_sun k) → ∃ σ2 τ2 w2, wp_C n σ σ2 ∧ wp_M n τ τ2 ∧ nb_R (sg_e1 28 σ2) w2 ∧ nb_V (τ2 1) w2 ∧ gi_I (m + n) w2 ∧ nb_F τ τ2 ∧ (∀ p k, ¬ (28 ≤ p ∧ p < 41) → σ2 p k = σ p k) ∧ w2 0 = w 0 + n ∧ (∀ T D, wp_T w T D → w 0 + n < D → wp_T w2 T D) := by
  intro n
  induction n with
  | zero =>
    intro m σ τ w hR hV hI hm h6
    exact ⟨σ, τ, w, rfl, rfl, hR, hV, hI, nb_Frf τ, fun _ _ _ => rfl, rfl, fun T D h _ => h⟩
  | succ n ih =>
    intro m σ τ w hR hV hI hm h6
    obtain ⟨r, ρ1, τ1, w1, a1, a2, a3, a4, a5, a6, a7, a8, a9⟩ := gn_pass hR hV hI (by omega) h6
    have hR1 : nb_R (sg_e1 28 (sg_m1 28 13 σ ρ1)) w1 := nb_Rx a3 a5.2.1 (fun _ _ => rfl) (fun p k hp _ _ => by
      show ρ1 p k = sg_m1 28 13 σ ρ1 (28 + p) k
      rw [nb_m1, if_pos (by omega), (by omega : 28 + p - 28 = p)])
    obtain ⟨σ2, τ2, w2, b1, b2, b3, b4, b5, b6, b7, b8, b9⟩ := ih (m + 1) (sg_m1 28 13 σ ρ1) τ1 w1 hR1 a4 a5 (by omega) (fun k hk => (a6 6 k (by decide) (by decide) (by omega)).trans (h6 k hk))
    refine ⟨σ2, τ2, w2, ⟨_, ρ1, a1, b1⟩, ⟨_, τ1, a2, b2⟩, b3, b4, (by omega : m + 1 + n = m + (n + 1)) ▸ b5, nb_Ftr a6 b6, fun p k hp => by rw [b7 p k hp, nb_m1, if_neg (by omega)], by omega, fun T D hT hD => b9 T D ?_ (by omega)⟩
    obtain ⟨t1, t2, t3⟩ := hT
    have e1 : gw_p w 0 1 1 = w 1 := gw_pne _ _ (by decide)
    have g := (a9 t1).1
    rw [e1, gw_pne w 1 (show 57 + 3 * (w 1 - 1) ≠ 0 by omega), gw_pat, gw_pne w 1 (show 55 + 3 * (w 1 - 1) ≠ 0 by omega)] at g
    obtain ⟨g1, g2, g3⟩ := g (by omega)
    exact ⟨g1, g2.trans t2, g3.trans t3⟩
theorem wp_l36 {x z : Int32} : ∀ (n j N f : Nat) (σ σ2 : sg_S), j + n = N → N < 2147483648 → n < f → wp_C n σ σ2 → f_X7_would_L36 x (nb N) z f (nb j) σ = sg_bnd (f_X3_weatherOf x z (sg_e1 28 σ2)) (fun r6 => some (r6, σ2)) := by
  intro n
  induction n with
  | zero =>
    intro j N f σ σ2 h1 h2 h3 h4
    obtain ⟨f, rfl⟩ : ∃ k, f = k + 1 := ⟨f - 1, by omega⟩
    have e : j = N := by omega
    have e2 : σ2 = σ := h4
    rw [f_X7_would_L36, if_neg (nb_lt_f (by omega) (by omega)), e2]
  | succ n ih =>
    intro j N f σ σ2 h1 h2 h3 h4
    obtain ⟨f, rfl⟩ : ∃ k, f = k + 1 := ⟨f - 1, by omega⟩
    obtain ⟨r, τ1, e1, e2⟩ := h4
    rw [f_X7_would_L36, if_pos (nb_lt_t (by omega) h2), e1, nb_bnd2, nb_let, nb_succ]
    exact ih (j + 1) N f _ σ2 (by omega) h2 (by omega) e2
theorem wp_l33 {x y : Int32} : ∀ (n j N f : Nat) (σ σ2 : sg_S), j + n = N → N < 2147483648 → n < f → wp_C n σ σ2 → f_X7_wouldBePaid_L33 x y (nb N) f (nb j) σ = sg_grd (sg_in x 5) (sg_bnd (f_X1_owedIn x ((σ2 28 0) + 1) (sg_e1 36 σ2)) (fun r10 => (if r10 ≤ σ2 29 x.toNatClampNeg then some (1, σ2) else some (0, σ2)))) := by
  intro n
  induction n with
  | zero =>
    intro j N f σ σ2 h1 h2 h3 h4
    obtain ⟨f, rfl⟩ : ∃ k, f = k + 1 := ⟨f - 1, by omega⟩
    have e : j = N := by omega
    have e2 : σ2 = σ := h4
    rw [f_X7_wouldBePaid_L33, if_neg (nb_lt_f (by omega) (by omega)), e2]
  | succ n ih =>
    intro j N f σ σ2 h1 h2 h3 h4
    obtain ⟨f, rfl⟩ : ∃ k, f = k + 1 := ⟨f - 1, by omega⟩
    obtain ⟨r, τ1, e1, e2⟩ := h4
    rw [f_X7_wouldBePaid_L33, if_pos (nb_lt_t (by omega) h2), e1, nb_bnd2, nb_let, nb_succ]
    exact ih (j + 1) N f _ σ2 (by omega) h2 (by omega) e2
theorem wp_l48 {x z : Int32} : ∀ (n j N f : Nat) (u : Int32) (τ τ2 : sg_S), j + n = N → N < 2147483648 → n < f → wp_M n τ τ2 → f_X8_would_L48 x (nb N) z f u (nb j) τ = sg_bnd (f_X8_at x z) (fun r10 => sg_grd (sg_in r10 79) (sg_let (τ2 1 r10.toNatClampNeg) (fun y13 => sg_bnd (f_X8_lays (sg_e2 1 1 4 τ2)) (fun τ14 => sg_let (sg_m2 1 1 4 1 τ2 τ14) (fun σ16 => some (y13, σ16)))))) := by
  intro n
  induction n with
  | zero =>
    intro j N f u τ τ2 h1 h2 h3 h4
    obtain ⟨f, rfl⟩ : ∃ k, f = k + 1 := ⟨f - 1, by omega⟩
    have e : j = N := by omega
    have e2 : τ2 = τ := h4
    rw [f_X8_would_L48, if_neg (nb_lt_f (by omega) (by omega)), e2]
  | succ n ih =>
    intro j N f u τ τ2 h1 h2 h3 h4
    obtain ⟨f, rfl⟩ : ∃ k, f = k + 1 := ⟨f - 1, by omega⟩
    obtain ⟨r, τ1, e1, e2⟩ := h4
    rw [f_X8_would_L48, if_pos (nb_lt_t (by omega) h2), e1, nb_bnd2, nb_let, nb_succ]
    exact ih (j + 1) N f _ _ τ2 (by omega) h2 (by omega) e2
theorem wp_l26 {x y : Int32} : ∀ (n j N f : Nat) (u : Int32) (τ τ2 : sg_S), j + n = N → N < 2147483648 → n < f → wp_M n τ τ2 → f_X8_wouldPay_L26 x y (nb N) f u (nb j) τ = sg_bnd (f_X8_lays (sg_e2 1 1 4 τ2)) (fun τ7 => sg_let (sg_m2 1 1 4 1 τ2 τ7) (fun σ9 => sg_grd (sg_01 (σ9 0 15)) (some (σ9 0 15, σ9)))) := by
  intro n
  induction n with
  | zero =>
    intro j N f u τ τ2 h1 h2 h3 h4
    obtain ⟨f, rfl⟩ : ∃ k, f = k + 1 := ⟨f - 1, by omega⟩
    have e : j = N := by omega
    have e2 : τ2 = τ := h4
    rw [f_X8_wouldPay_L26, if_neg (nb_lt_f (by omega) (by omega)), e2]
  | succ n ih =>
    intro j N f u τ τ2 h1 h2 h3 h4
    obtain ⟨f, rfl⟩ : ∃ k, f = k + 1 := ⟨f - 1, by omega⟩
    obtain ⟨r, τ1, e1, e2⟩ := h4
    rw [f_X8_wouldPay_L26, if_pos (nb_lt_t (by omega) h2), e1, nb_bnd2, nb_let, nb_succ]
    exact ih (j + 1) N f _ _ τ2 (by omega) h2 (by omega) e2
/-- the trial as a copy, the reference's kept row -/
theorem wp_copy (σ : sg_S) {w : Nat → Nat} (hR : nb_R (sg_e1 1 σ) w) (h8 : w 1 ≤ 8) : ∃ τ1, f_X3_copyFrom (sg_e2 13 28 1 σ) = some τ1 ∧ nb_R (sg_e1 28 (sg_m2 28 13 1 13 σ τ1)) w ∧ ∀ p k, ¬ (28 ≤ p ∧ p < 41) → sg_m2 28 13 1 13 σ τ1 p k = σ p k := by
  obtain ⟨τ1, e, a, b⟩ := hr_cp (σ := σ) (o := 28) (o2 := 1) (by omega)
  exact ⟨τ1, e, hr_R a hR h8, fun p k hp => b p k (by omega)⟩
theorem wp_f1 {σ σ2 : sg_S} (h : ∀ p k, ¬ (28 ≤ p ∧ p < 41) → σ2 p k = σ p k) : gx_f1 σ σ2 := fun p k _ hp => h p k (by omega)
theorem gz_would {m : Nat} {σ τ : sg_S} (h : gx_A m σ τ) (hm : m < 8900) (x y z : Int32) : ∃ r σ2 τ2, f_X7_would x y z σ = some (r, σ2) ∧ f_X8_would x y z τ = some (r, τ2) ∧ gx_f1 σ σ2 ∧ gx_f2 τ τ2 := by
  obtain ⟨⟨w, hR, hV, hI⟩, hW, h6, hH, hS, hf⟩ := h
  obtain ⟨j1, j2, j3, j4, j5, j6, j7⟩ := id hI.2
  unfold f_X7_would f_X8_would
  rcases nb_town x with ⟨t, ht, e, t1, t2⟩ | ⟨t1, t2⟩
  · subst e
    rw [t1, t2, nb_bnd, nb_bnd, if_neg nb_10, if_neg nb_10]
    rcases nb_isIn y 0 24 (by decide) (by decide) with ⟨n, hn0, hn, e, v⟩ | ⟨hn, v⟩
    · subst e
      have v2 : f_X8_isIn (nb n) 0 24 = some 1 := v
      obtain ⟨τc, e1, a1, b1⟩ := wp_copy σ hR j1
      rw [if_pos (nb_0le (by omega)), if_neg (show ¬ (24 : Int32) < nb n from nb_lt_f (a := 24) hn (by decide)), e1, nb_bnd, nb_let, v2, nb_bnd, if_neg nb_10]
      generalize sg_m2 28 13 1 13 σ τc = σ3 at a1 b1
      obtain ⟨τd, e2, b2⟩ := hr_ly (τ := τ) (a := 4) (b := 1) (by decide)
      have hV3 : nb_V (sg_m2 4 1 1 1 τ τd 1) w := fun k hk => by
        rw [b2, if_neg (by omega)]
        exact hV k hk
      have h63 : ∀ k, k < 12 → sg_m2 4 1 1 1 τ τd 6 k = sg_sun k := fun k hk => by
        rw [b2, if_neg (by omega)]
        exact h6 k hk
      obtain ⟨σ4, τ4, w4, c1, c2, c3, c4, c5, c6, c7, c8, c9⟩ := wp_both n m σ3 (sg_m2 4 1 1 1 τ τd) w a1 hV3 hI (by omega) h63
      have k1 := wp_l36 (x := nb t) (z := z) n 0 n 1000 σ3 σ4 (by omega) (by omega) (by omega) c1
      have k1' : f_X7_would_L36 (nb t) (nb n) z 1000 0 σ3 = sg_bnd (f_X3_weatherOf (nb t) z (sg_e1 28 σ4)) (fun r6 => some (r6, σ4)) := k1
      rw [k1']
      have ff : gx_f1 σ σ4 := wp_f1 (fun p k hp => (c7 p k hp).trans (b1 p k hp))
      obtain ⟨τe, e5, b5⟩ := hr_ly (τ := τ4) (a := 1) (b := 4) (by decide)
      have f2 : gx_f2 τ (sg_m2 1 1 4 1 τ4 τe) := fun p k h2 h4 h7 h10 h1 h0 => by
        rw [b5]
        by_cases d : p = 1 ∧ k < 79
        · rw [if_pos d, c6 4 k (by decide) (by decide) (by omega), b2, if_pos ⟨rfl, d.2⟩, d.1]
        · rw [if_neg d, c6 p k (fun q => d ⟨q, h1 q⟩) h7 (by omega), b2, if_neg (by omega)]
      unfold f_X3_weatherOf
      rw [t1, nb_bnd, if_neg nb_10, nb_grd (nb_i5 ht), nb_t5 ht, nb_grd (nb_i5 ht), nb_grd (nb_i5 ht), nb_grd (nb_i5 ht)]
      rcases nb_isIn z 0 3 (by decide) (by decide) with ⟨q, hq0, hq, e, u⟩ | ⟨hq, u⟩
      · subst e
        have u2 : f_X8_isIn (nb q) 0 3 = some 1 := u
        have k2 := wp_l48 (x := nb t) (z := nb q) n 0 n 1000 0 (sg_m2 4 1 1 1 τ τd) τ4 (by omega) (by omega) (by omega) c2
        have k2' : f_X8_would_L48 (nb t) (nb n) (nb q) 1000 0 0 (sg_m2 4 1 1 1 τ τd) = _ := k2
        rw [u2, nb_bnd, if_neg nb_10, e2, nb_bnd, nb_let, k2', nb_at, nb_bnd, nb_grd (nb_i79 (by omega)), nb_t79 (by omega), nb_let, e5, nb_bnd, nb_let, c4 _ (by omega)]
        refine ⟨nb (w4 (10 + 4 * t + q)), σ4, _, ?_, rfl, ff, f2⟩
        rcases (by omega : q = 0 ∨ q = 1 ∨ q = 2 ∨ q = 3) with rfl | rfl | rfl | rfl
        · rw [if_pos (by decide), nb_bnd, show sg_e1 28 σ4 1 t = nb (w4 (10 + 4 * t)) from nb_g1 c3.1 ht]
          try rfl
        · rw [if_neg (by decide), if_pos (by decide), nb_bnd, show sg_e1 28 σ4 2 t = nb (w4 (11 + 4 * t)) from nb_g2 c3.1 ht, (by omega : 10 + 4 * t + 1 = 11 + 4 * t)]
        · rw [if_neg (by decide), if_neg (by decide), if_pos (by decide), nb_bnd, show sg_e1 28 σ4 3 t = nb (w4 (12 + 4 * t)) from nb_g3 c3.1 ht, (by omega : 10 + 4 * t + 2 = 12 + 4 * t)]
        · rw [if_neg (by decide), if_neg (by decide), if_neg (by decide), if_pos (by decide), nb_bnd, show sg_e1 28 σ4 4 t = nb (w4 (13 + 4 * t)) from nb_g4 c3.1 ht, (by omega : 10 + 4 * t + 3 = 13 + 4 * t)]
      · have u2 : f_X8_isIn z 0 3 = some 0 := u
        have n0 : ¬ z = 0 := fun e => hq (by rw [e]; decide)
        have n1 : ¬ z = 1 := fun e => hq (by rw [e]; decide)
        have n2 : ¬ z = 2 := fun e => hq (by rw [e]; decide)
        have n3 : ¬ z = 3 := fun e => hq (by rw [e]; decide)
        rw [u2, nb_bnd, if_pos rfl, if_neg n0, if_neg n1, if_neg n2, if_neg n3, nb_bnd]
        exact ⟨_, σ4, τ, rfl, rfl, ff, gx_f2r τ⟩
    · have v2 : f_X8_isIn y 0 24 = some 0 := v
      rw [v2, nb_bnd, if_pos rfl]
      refine ⟨-2, σ, τ, ?_, rfl, gx_f1r σ, gx_f2r τ⟩
      by_cases d : (0 : Int32) ≤ y
      · rw [if_pos d, if_pos (show (24 : Int32) < y from Int32.not_le.mp (fun d2 => hn ⟨d, d2⟩))]
      · rw [if_neg d]
  · rw [t1, t2, nb_bnd, nb_bnd, if_pos rfl, if_pos rfl]
    exact ⟨_, σ, τ, rfl, rfl, gx_f1r σ, gx_f2r τ⟩
