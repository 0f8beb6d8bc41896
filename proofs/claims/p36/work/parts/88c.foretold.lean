/-! PURE, THE CLASS ALONE: months one by one and months as foretold; the most credit that would be paid -/
def wm_0 (w : Nat → Nat) : sg_S := cl_t w (fun _ _ => 0)
/-- w2 is what w is n months later -/
def wm_P (n : Nat) (w w2 : Nat → Nat) : Prop := ∃ τ2, wp_M n (wm_0 w) τ2 ∧ nb_V (τ2 1) w2 ∧ ∀ k, k < 12 → τ2 6 k = sg_sun k
theorem wm_r (w : Nat → Nat) : wm_P 0 w w := ⟨wm_0 w, rfl, cl_tV w _, cl_t6 w _⟩
theorem wm_fun : ∀ (n : Nat) (τ a b : sg_S), wp_M n τ a → wp_M n τ b → a = b := by
  intro n
  induction n with
  | zero => exact fun τ a b h1 h2 => (show a = τ from h1).trans (show b = τ from h2).symm
  | succ n ih =>
    intro τ a b h1 h2
    obtain ⟨r1, t1, e1, g1⟩ := h1
    obtain ⟨r2, t2, e2, g2⟩ := h2
    rw [e1] at e2
    have e3 := Option.some.inj e2
    have e4 : t1 = t2 := congrArg Prod.snd e3
    subst e4
    exact ih t1 a b g1 g2
theorem wm_bd {m : Nat} {w : Nat → Nat} (hI : gi_I m w) (hm : m < 9000) : (∀ k, k < 55 → w k < 2147483648) ∧ ∀ c, c < w 1 → w (55 + 3 * c) < 2147483648 ∧ w (56 + 3 * c) < 2147483648 ∧ w (57 + 3 * c) < 2147483648 := by
  obtain ⟨⟨i0, e1, e2, e3, e4, e5, e6, e7, e8, e9⟩, j1, j2, j3, j4, j5, j6, j7⟩ := hI
  refine ⟨fun k hk => ?_, fun c hc => ?_⟩
  · by_cases c1 : k < 10
    · rcases (by omega : k = 0 ∨ k = 1 ∨ k = 2 ∨ k = 3 ∨ k = 4 ∨ k = 5 ∨ k = 6 ∨ k = 7 ∨ k = 8 ∨ k = 9) with rfl | rfl | rfl | rfl | rfl | rfl | rfl | rfl | rfl | rfl <;> omega
    · by_cases c2 : k < 30
      · have ht : (k - 10) / 4 < 5 := by omega
        obtain ⟨b1, b2, b3, b4⟩ := j3 _ ht
        have e : k = 10 + 4 * ((k - 10) / 4) + (k - 10) % 4 := by omega
        have e5 : (k - 10) % 4 < 4 := by omega
        generalize (k - 10) / 4 = t at b1 b2 b3 b4 e
        generalize (k - 10) % 4 = q at e e5
        subst e
        rcases (by omega : q = 0 ∨ q = 1 ∨ q = 2 ∨ q = 3) with rfl | rfl | rfl | rfl
        · rw [Nat.add_zero]
          omega
        · rw [(by omega : 10 + 4 * t + 1 = 11 + 4 * t)]
          omega
        · rw [(by omega : 10 + 4 * t + 2 = 12 + 4 * t)]
          omega
        · rw [(by omega : 10 + 4 * t + 3 = 13 + 4 * t)]
          omega
      · have h := (j4 ((k - 30) / 5) ((k - 30) % 5) (by omega) (by omega)).1
        rw [(by omega : 30 + 5 * ((k - 30) / 5) + (k - 30) % 5 = k)] at h
        omega
  · obtain ⟨d1, d2, d3, d4, d5⟩ := j6 c hc
    exact ⟨by omega, by omega, by omega⟩
/-- the same in all that counts -/
def wm_E (w w2 : Nat → Nat) : Prop := (∀ k, k < 55 → w k = w2 k) ∧ ∀ c, c < w 1 → w (55 + 3 * c) = w2 (55 + 3 * c) ∧ w (56 + 3 * c) = w2 (56 + 3 * c) ∧ w (57 + 3 * c) = w2 (57 + 3 * c)
theorem wm_eq {n m m2 : Nat} {w a b : Nat → Nat} (ha : wm_P n w a) (hb : wm_P n w b) (ia : gi_I m a) (ib : gi_I m2 b) (hm : m < 9000) (hm2 : m2 < 9000) : wm_E a b := by
  obtain ⟨t1, p1, v1, _⟩ := ha
  obtain ⟨t2, p2, v2, _⟩ := hb
  have e := wm_fun n _ _ _ p1 p2
  subst e
  obtain ⟨x1, x2⟩ := wm_bd ia hm
  obtain ⟨y1, y2⟩ := wm_bd ib hm2
  have key : ∀ k, k < 79 → a k < 2147483648 → b k < 2147483648 → a k = b k := fun k hk h1 h2 => (nb_eq h1 h2).mp ((v1 k hk).symm.trans (v2 k hk))
  have k1 := key 1 (by decide) (x1 1 (by decide)) (y1 1 (by decide))
  have j1 := ia.2.1
  refine ⟨fun k hk => key k (by omega) (x1 k hk) (y1 k hk), fun c hc => ?_⟩
  obtain ⟨g1, g2, g3⟩ := x2 c hc
  obtain ⟨h1, h2, h3⟩ := y2 c (by omega)
  exact ⟨key _ (by omega) g1 h1, key _ (by omega) g2 h2, key _ (by omega) g3 h3⟩
theorem wm_to {w w2 : Nat → Nat} (h : wm_E w w2) (t d : Nat) : gc_to w t d = gc_to w2 t d := by
  unfold gc_to
  rw [← h.1 1 (by decide)]
  exact gc_sx (fun c hc => by
    obtain ⟨h1, h2, h3⟩ := h.2 c hc
    show (decide (w (55 + 3 * c) = t) && decide (w (57 + 3 * c) = d)) = (decide (w2 (55 + 3 * c) = t) && decide (w2 (57 + 3 * c) = d)) ∧ w (56 + 3 * c) = w2 (56 + 3 * c)
    rw [h1, h2, h3]
    exact ⟨rfl, rfl⟩)
theorem cl_big {n : Nat} (hn : n < 100000) : nb n ≠ -1 ∧ nb n ≠ -2 ∧ nb n ≠ -5 := by
  have h := nb_0le (t := n) (by omega)
  refine ⟨fun e => ?_, fun e => ?_, fun e => ?_⟩ <;> (rw [e] at h; exact absurd h (by decide))
theorem cl_ref {m : Nat} {w : Nat → Nat} {σ : sg_S} (hR : nb_R (sg_e1 1 σ) w) (hI : gi_I m w) (hm : m < 9000) (a d : Int32) (ha : a ≠ 0) : ∃ σ2, sg_bnd2 (f_X4_keep a d (sg_e1 14 σ)) (fun r τ1 => sg_let (sg_m1 14 1 σ τ1) (fun σ1 => some (r, σ1))) = some (-5, σ2) ∧ gq_C σ σ2 ∧ nb_R (sg_e1 1 σ2) w := by
  obtain ⟨κ, τ2, e1, _, _, hC, _, hO⟩ := gq_refuse (cl_tH hR hI hm) a d ha
  refine ⟨_, by rw [e1]; rfl, hC, ?_⟩
  rcases hO with ⟨n, w2, er, hn, _⟩ | ⟨_, _, _, hR2, _⟩
  · exact absurd er.symm (cl_big hn).2.2
  · exact hR2
def cl_cr (w : Nat → Nat) (t H : Nat) : Prop := w (13 + 4 * t) = 0 ∧ w 1 < 8 ∧ w (10 + 4 * t) + H ≤ 60
theorem cl_hr {H : Nat} (h1 : 1 ≤ H) (h2 : H ≤ 20) : f_X7_isHours (nb H) = some 1 := by
  rcases nb_hours (nb H) with ⟨_, _, _, _, v1, _⟩ | ⟨_, v2⟩
  · exact v1
  · rcases nb_isIn (nb H) 1 20 (by decide) (by decide) with ⟨_, _, _, _, z⟩ | ⟨hn, _⟩
    · have z2 : f_X8_isIn (nb H) 1 20 = some 1 := z
      rw [z2] at v2
      cases v2
    · exact absurd ⟨nb_le_t h1 (by omega), nb_le_t h2 (by decide)⟩ hn
theorem cl_mo {M : Nat} (h1 : 1 ≤ M) (h2 : M ≤ 6) : f_X7_isMonths (nb M) = some 1 := by
  rcases nb_months (nb M) with ⟨_, _, _, _, v1, _⟩ | ⟨_, v2⟩
  · exact v1
  · rcases nb_isIn (nb M) 1 6 (by decide) (by decide) with ⟨_, _, _, _, z⟩ | ⟨hn, _⟩
    · have z2 : f_X8_isIn (nb M) 1 6 = some 1 := z
      rw [z2] at v2
      cases v2
    · exact absurd ⟨nb_le_t h1 (by omega), nb_le_t h2 (by decide)⟩ hn
theorem cl_id (o : Option (Int32 × sg_S)) : sg_bnd2 o (fun r t => some (r, t)) = o := by
  cases o with
  | none => rfl
  | some x => rfl
theorem cl_lend {m : Nat} {w : Nat → Nat} {σ : sg_S} (hR : nb_R (sg_e1 1 σ) w) (hI : gi_I m w) (hm : m < 9000) {t H M : Nat} (ht : t < 5) (hH1 : 1 ≤ H) (hH : H ≤ 20) (hM1 : 1 ≤ M) (hM : M ≤ 6) : ∃ r σ2, f_X7_perform 2 (nb t) (nb H) (nb M) σ = some (r, σ2) ∧ cl_O m w σ (fun n w2 => n = w 1 ∧ w2 = gl_w w t H M ∧ cl_cr w t H) (fun _ => ¬ cl_cr w t H) r σ2 := by
  obtain ⟨j1, j2, j3, j4, j5, j6, j7⟩ := hI.2
  obtain ⟨b1, b2, b3, b4⟩ := j3 t ht
  obtain ⟨t1, t2⟩ := nb_townE ht
  have u1 := cl_hr hH1 hH
  have v1 := cl_mo hM1 hM
  have s5 : σ 5 t = nb (w (13 + 4 * t)) := nb_g4 hR.1 ht
  have s2 : σ 2 t = nb (w (10 + 4 * t)) := nb_g1 hR.1 ht
  have s9 : σ 9 0 = nb (w 1) := nb_g8 hR
  have e60 : (60 : Int32) - nb (w (10 + 4 * t)) = nb (60 - w (10 + 4 * t)) := nb_sub (a := 60) b1
  have per : f_X7_perform 2 (nb t) (nb H) (nb M) σ = f_X7_lend (nb t) (nb H) (nb M) σ := by
    unfold f_X7_perform
    rw [if_neg (by decide), if_neg (by decide), if_pos rfl, cl_id]
  rw [per]
  by_cases c : w (13 + 4 * t) = 0
  · by_cases c2 : w 1 = 8
    · obtain ⟨σ2, e, a1, a2⟩ := cl_ref hR hI hm 1 (nb (w 1)) (by decide)
      refine ⟨-5, σ2, ?_, a1, Or.inr ⟨Or.inr (Or.inr rfl), a2, fun q => ?_⟩⟩
      · unfold f_X7_lend
        rw [t1, nb_bnd, if_neg nb_10, u1, nb_bnd, if_neg nb_10, v1, nb_bnd, if_neg nb_10, nb_grd (nb_i5 ht), nb_t5 ht, s5, c, if_neg nb_npos, s9, if_pos (by rw [c2]; decide)]
        exact e
      · have := q.2.1
        omega
    · by_cases c3 : 60 < w (10 + 4 * t) + H
      · obtain ⟨σ2, e, a1, a2⟩ := cl_ref hR hI hm 3 (nb (60 - w (10 + 4 * t))) (by decide)
        refine ⟨-5, σ2, ?_, a1, Or.inr ⟨Or.inr (Or.inr rfl), a2, fun q => ?_⟩⟩
        · unfold f_X7_lend
          rw [t1, nb_bnd, if_neg nb_10, u1, nb_bnd, if_neg nb_10, v1, nb_bnd, if_neg nb_10, nb_grd (nb_i5 ht), nb_t5 ht, s5, c, if_neg nb_npos, s9, if_neg (show ¬ (8 : Int32) ≤ nb (w 1) from nb_le_f (a := 8) (by omega) (by decide)), s2, nb_add, if_pos (show (60 : Int32) < nb (w (10 + 4 * t) + H) from nb_lt_t (a := 60) c3 (by omega)), e60]
          exact e
        · have := q.2.2
          omega
      · obtain ⟨⟨r, σ2⟩, e, a1, a2, a3⟩ := gl_credit1 (M := M) hR (by omega) ht hH c (by omega) u1 v1
        have a1' : r = nb (w 1) := a1
        subst a1'
        refine ⟨_, σ2, e, fun p hp => a3 p (by omega), Or.inl ⟨w 1, gl_w w t H M, rfl, by omega, a2, ⟨⟨by rw [gl_0]; exact Nat.le_succ_of_le hI.1.1, ge_credit hI.1.2 ht hH⟩, gl_J hI.2 ht (by omega) hH1 hH hM1 hM c (by omega)⟩, rfl, rfl, c, by omega, by omega⟩⟩
  · obtain ⟨σ2, e, a1, a2⟩ := cl_ref hR hI hm 2 (nb (w (13 + 4 * t))) (by decide)
    refine ⟨-5, σ2, ?_, a1, Or.inr ⟨Or.inr (Or.inr rfl), a2, fun q => c q.1⟩⟩
    unfold f_X7_lend
    rw [t1, nb_bnd, if_neg nb_10, u1, nb_bnd, if_neg nb_10, v1, nb_bnd, if_neg nb_10, nb_grd (nb_i5 ht), nb_t5 ht, s5, if_pos (nb_pos (by omega) (by omega))]
    exact e
theorem cl_credit {m c : Nat} {w : Nat → Nat} {σ : sg_S} (h : cl_A m w c σ) (hm : m < 9000) {t H M : Nat} (ht : t < 5) (hH1 : 1 ≤ H) (hH : H ≤ 20) (hM1 : 1 ≤ M) (hM : M ≤ 6) : ∃ r σ2, f_X7_credit (nb t) (nb H) (nb M) σ = some (r, σ2) ∧ cl_C m w c σ (fun n w2 => n = w 1 ∧ w2 = gl_w w t H M ∧ cl_cr w t H) (fun _ => ¬ cl_cr w t H) r σ2 := by
  obtain ⟨r, σ2, e, a⟩ := cl_ch (kd := 2) h (fun σ3 hR3 => cl_lend hR3 h.2.1 hm ht hH1 hH hM1 hM)
  refine ⟨r, σ2, ?_, a⟩
  rw [f_X7_credit, e]
  rfl
theorem cl_month {m c n : Nat} {w w0 : Nat → Nat} {σ : sg_S} (h : cl_A m w c σ) (hm : m < 9000) (hP : wm_P n w0 w) : ∃ r σ2, f_X7_month σ = some (r, σ2) ∧ cl_C m w c σ (fun _ w2 => wm_P (n + 1) w0 w2) (fun _ => False) r σ2 := by
  obtain ⟨τ2, p1, p2, p3⟩ := hP
  obtain ⟨r, σ2, e, a⟩ := cl_ch (kd := 7) (x := 0) (y := 0) (z := 0) (G := fun _ w2 => wm_P (n + 1) w0 w2) (B := fun _ => False) h (fun σ3 hR3 => by
    obtain ⟨r, ρ2, τ3, w2, a1, a2, a3, a4, a5, a6, a7, a8⟩ := gn_pass hR3 p2 h.2.1 hm p3
    refine ⟨nb r, sg_m1 1 13 σ3 ρ2, ?_, ?_, Or.inl ⟨r, w2, rfl, by omega, gq_Rm1 a3 a5.2.1, a5, ⟨τ3, wp_snoc n _ τ2 τ3 _ p1 a2, a4, fun k hk => (a6 6 k (by decide) (by decide) (by omega)).trans (p3 k hk)⟩⟩⟩
    · unfold f_X7_perform
      rw [if_neg (by decide), if_neg (by decide), if_neg (by decide), if_neg (by decide), if_neg (by decide), if_neg (by decide), if_neg (by decide), a1]
      rfl
    · exact fun p hp => gq_Pm1 (gq_Prf σ3) (by decide) p (by omega))
  refine ⟨r, σ2, ?_, a⟩
  rw [f_X7_month, e]
  rfl
/-- the trial: n months -/
theorem wm_trial {m n : Nat} {w : Nat → Nat} {σ : sg_S} (hR : nb_R (sg_e1 28 σ) w) (hI : gi_I m w) (hm : m + n < 9000) : ∃ σ2 w2, wp_C n σ σ2 ∧ wm_P n w w2 ∧ nb_R (sg_e1 28 σ2) w2 ∧ gi_I (m + n) w2 ∧ (∀ p k, ¬ (28 ≤ p ∧ p < 41) → σ2 p k = σ p k) := by
  obtain ⟨σ2, τ2, w2, a1, a2, a3, a4, a5, a6, a7, _⟩ := wp_both n m σ (wm_0 w) w hR (cl_tV w _) hI hm (cl_t6 w _)
  exact ⟨σ2, w2, a1, ⟨τ2, a2, a4, fun k hk => (a6 6 k (by decide) (by decide) (by omega)).trans (cl_t6 w _ k hk)⟩, a3, a5, a7⟩
theorem cl_would {m c : Nat} {w : Nat → Nat} {σ : sg_S} (h : cl_A m w c σ) (hm : m < 8900) {t n q : Nat} (ht : t < 5) (hn : n ≤ 24) (hq : q < 4) : ∃ σ2 w2, f_X7_would (nb t) (nb n) (nb q) σ = some (nb (w2 (10 + 4 * t + q)), σ2) ∧ gx_f1 σ σ2 ∧ wm_P n w w2 ∧ gi_I (m + n) w2 := by
  obtain ⟨hR, hI, _⟩ := h
  have j1 := hI.2.1
  obtain ⟨t1, t2⟩ := nb_townE ht
  obtain ⟨τc, e1, a1, b1⟩ := wp_copy σ hR j1
  unfold f_X7_would
  rw [t1, nb_bnd, if_neg nb_10, if_pos (nb_0le (by omega)), if_neg (show ¬ (24 : Int32) < nb n from nb_lt_f (a := 24) hn (by decide)), e1, nb_bnd, nb_let]
  generalize sg_m2 28 13 1 13 σ τc = σ3 at a1 b1
  obtain ⟨σ4, w4, c1, c2, c3, c4, c5⟩ := wm_trial a1 hI (n := n) (by omega)
  have k1 := wp_l36 (x := nb t) (z := nb q) n 0 n 1000 σ3 σ4 (by omega) (by omega) (by omega) c1
  have k1' : f_X7_would_L36 (nb t) (nb n) (nb q) 1000 0 σ3 = sg_bnd (f_X3_weatherOf (nb t) (nb q) (sg_e1 28 σ4)) (fun r6 => some (r6, σ4)) := k1
  rw [k1']
  refine ⟨σ4, w4, ?_, wp_f1 (fun p k hp => (c5 p k hp).trans (b1 p k hp)), c2, c4⟩
  unfold f_X3_weatherOf
  rw [t1, nb_bnd, if_neg nb_10, nb_grd (nb_i5 ht), nb_t5 ht, nb_grd (nb_i5 ht), nb_grd (nb_i5 ht), nb_grd (nb_i5 ht)]
  rcases (by omega : q = 0 ∨ q = 1 ∨ q = 2 ∨ q = 3) with rfl | rfl | rfl | rfl
  · rw [if_pos (by decide), nb_bnd, show sg_e1 28 σ4 1 t = nb (w4 (10 + 4 * t)) from nb_g1 c3.1 ht]
    try rfl
  · rw [if_neg (by decide), if_pos (by decide), nb_bnd, show sg_e1 28 σ4 2 t = nb (w4 (11 + 4 * t)) from nb_g2 c3.1 ht, (by omega : 10 + 4 * t + 1 = 11 + 4 * t)]
  · rw [if_neg (by decide), if_neg (by decide), if_pos (by decide), nb_bnd, show sg_e1 28 σ4 3 t = nb (w4 (12 + 4 * t)) from nb_g3 c3.1 ht, (by omega : 10 + 4 * t + 2 = 12 + 4 * t)]
  · rw [if_neg (by decide), if_neg (by decide), if_neg (by decide), if_pos (by decide), nb_bnd, show sg_e1 28 σ4 4 t = nb (w4 (13 + 4 * t)) from nb_g4 c3.1 ht, (by omega : 10 + 4 * t + 3 = 13 + 4 * t)]
theorem cl_wouldB (σ : sg_S) : f_X7_would 0 25 0 σ = some (-2, σ) := by
  have t1 : f_X7_isTown 0 = some 1 := by decide
  unfold f_X7_would
  rw [t1, nb_bnd, if_neg nb_10, if_pos (by decide), if_pos (by decide)]
/-- a credit of H hours for M months would be paid -/
def wm_ok (w : Nat → Nat) (t H M : Nat) : Prop := ∃ (m2 : Nat) (w2 : Nat → Nat), m2 < 9000 ∧ gi_I m2 w2 ∧ wm_P (M - 1) (gl_w w t H M) w2 ∧ gc_to w2 t (w2 0 + 1) ≤ w2 (10 + 4 * t)
theorem wm_okI {w w2 : Nat → Nat} {t H M m2 : Nat} (hm : m2 < 9000) (hI : gi_I m2 w2) (hP : wm_P (M - 1) (gl_w w t H M) w2) (ht : t < 5) : wm_ok w t H M ↔ gc_to w2 t (w2 0 + 1) ≤ w2 (10 + 4 * t) := by
  constructor
  · intro h
    obtain ⟨m3, w3, h3, i3, p3, q3⟩ := h
    have e := wm_eq p3 hP i3 hI h3 hm
    rw [wm_to e, e.1 0 (by decide), e.1 (10 + 4 * t) (by omega)] at q3
    exact q3
  · exact fun h => ⟨m2, w2, hm, hI, hP, h⟩
theorem wm_paid {m : Nat} {σ : sg_S} {w : Nat → Nat} {t H M : Nat} (hR : nb_R (sg_e1 1 σ) w) (hI : gi_I m w) (hm : m < 8900) (ht : t < 5) (hH1 : 1 ≤ H) (hH : H ≤ 20) (hM1 : 1 ≤ M) (hM : M ≤ 6) (hc : cl_cr w t H) : ∃ b σ2, f_X7_wouldBePaid (nb t) (nb H) (nb M) σ = some (nb b, σ2) ∧ ((b = 1 ∧ wm_ok w t H M) ∨ (b = 0 ∧ ¬ wm_ok w t H M)) ∧ (∀ p k, ¬ (28 ≤ p ∧ p < 41) → σ2 p k = σ p k) := by
  obtain ⟨h0, h8, h60⟩ := hc
  have hJ := hI.2
  obtain ⟨τc, e1, a1, b1⟩ := wp_copy σ hR (by omega)
  unfold f_X7_wouldBePaid
  rw [(nb_townE ht).1, nb_bnd, if_neg nb_10, e1, nb_bnd, nb_let]
  generalize sg_m2 28 13 1 13 σ τc = σ3 at a1 b1
  obtain ⟨ρ2, e3, a3⟩ := gl_give (H := H) (M := M) a1 h8 ht
  rw [e3, nb_bnd, nb_let]
  have hR8 : nb_R (sg_e1 28 (sg_m1 28 13 σ3 ρ2)) (gl_w w t H M) := nb_Rx a3 (by rw [gl_n]; omega) (fun _ _ => rfl) (fun p k hp _ _ => by
    show ρ2 p k = sg_m1 28 13 σ3 ρ2 (28 + p) k
    rw [nb_m1, if_pos (by omega), (by omega : 28 + p - 28 = p)])
  have hI8 : gi_I (m + 1) (gl_w w t H M) := ⟨⟨by rw [gl_0]; exact Nat.le_succ_of_le hI.1.1, ge_credit hI.1.2 ht hH⟩, gl_J hJ ht h8 hH1 hH hM1 hM h0 h60⟩
  obtain ⟨σ9, w9, d1, d2, d3, d4, d5⟩ := wm_trial hR8 hI8 (n := M - 1) (by omega)
  have k1 := wp_l33 (x := nb t) (y := nb H) (M - 1) 1 M 1000 _ σ9 (by omega) (by omega) (by omega) d1
  have k1' : f_X7_wouldBePaid_L33 (nb t) (nb H) (nb M) 1000 1 (sg_m1 28 13 σ3 ρ2) = _ := k1
  rw [k1']
  have s0 : σ9 28 0 = nb (w9 0) := nb_g0 d3.1
  have s1 : σ9 29 t = nb (w9 (10 + 4 * t)) := nb_g1 d3.1 ht
  obtain ⟨j1, j2, j3, j4, j5, j6, j7⟩ := id d4.2
  have hO : f_X1_owedIn (nb t) (nb (w9 0 + 1)) (sg_e1 36 σ9) = some (nb (gc_to w9 t (w9 0 + 1))) := gc_owedIn (κ := sg_e1 36 σ9) d3.2 (gz_K d4.2) ht (by omega)
  have lim : gc_to w9 t (w9 0 + 1) ≤ 20 * w9 1 := gl_sle _ _ 20 _ (fun c hc => (j6 c hc).2.2.1)
  have l10 := (j3 t ht).1
  have hok := wm_okI (m2 := m + 1 + (M - 1)) (by omega) d4 d2 ht
  rw [nb_grd (nb_i5 ht), s0, nb_succ, hO, nb_bnd, nb_t5 ht, s1]
  have ff : ∀ p k, ¬ (28 ≤ p ∧ p < 41) → σ9 p k = σ p k := fun p k hp => by rw [d5 p k hp, nb_m1, if_neg (by omega), b1 p k hp]
  by_cases c : gc_to w9 t (w9 0 + 1) ≤ w9 (10 + 4 * t)
  · refine ⟨1, σ9, ?_, Or.inl ⟨rfl, hok.mpr c⟩, ff⟩
    rw [if_pos (nb_le_t c (by omega))]
    try rfl
  · refine ⟨0, σ9, ?_, Or.inr ⟨rfl, fun q => c (hok.mp q)⟩, ff⟩
    rw [if_neg (nb_le_f (by omega) (by omega))]
    try rfl
/-- what most answers -/
def wm_most (w : Nat → Nat) (t M H : Nat) : Prop := H ≤ 20 ∧ (1 ≤ H → cl_cr w t H ∧ wm_ok w t H M) ∧ ∀ K, H < K → K ≤ 20 → ¬ (cl_cr w t K ∧ wm_ok w t K M)
theorem wm_loop {m : Nat} {w : Nat → Nat} {t M : Nat} (hI : gi_I m w) (hm : m < 8900) (ht : t < 5) (h8 : w 1 < 8) (hM1 : 1 ≤ M) (hM : M ≤ 6) (h0 : w (13 + 4 * t) = 0) : ∀ (H f1 : Nat) (σ : sg_S), H ≤ 20 → H < f1 → w (10 + 4 * t) + H ≤ 60 → nb_R (sg_e1 1 σ) w → (∀ K, H < K → K ≤ 20 → ¬ (cl_cr w t K ∧ wm_ok w t K M)) → ∃ r σ2, f_X7_most_L66 (nb t) (nb M) f1 (nb H) σ = some (nb r, σ2) ∧ wm_most w t M r ∧ (∀ p k, ¬ (28 ≤ p ∧ p < 41) → σ2 p k = σ p k) := by
  intro H
  induction H with
  | zero =>
    intro f1 σ h20 hf1 h60 hR hK
    obtain ⟨f1, rfl⟩ : ∃ k, f1 = k + 1 := ⟨f1 - 1, by omega⟩
    rw [f_X7_most_L66, if_neg nb_npos]
    exact ⟨0, σ, rfl, ⟨by decide, fun h => absurd h (by decide), hK⟩, fun _ _ _ => rfl⟩
  | succ H ih =>
    intro f1 σ h20 hf1 h60 hR hK
    obtain ⟨f1, rfl⟩ : ∃ k, f1 = k + 1 := ⟨f1 - 1, by omega⟩
    obtain ⟨b, σ2, a1, hb, a3⟩ := wm_paid hR hI hm ht (H := H + 1) (by omega) h20 hM1 hM ⟨h0, h8, h60⟩
    have hp := nb_pos (t := H + 1) (by omega) (by omega)
    rw [f_X7_most_L66, if_pos hp, a1, nb_bnd2]
    rcases hb with ⟨rfl, hb⟩ | ⟨rfl, hb⟩
    · rw [if_neg (show ¬ nb 1 = 0 from nb_10)]
      exact ⟨_, σ2, rfl, ⟨h20, fun _ => ⟨⟨h0, h8, h60⟩, hb⟩, hK⟩, a3⟩
    · rw [if_pos (show nb 0 = 0 from rfl), nb_dec]
      obtain ⟨r, σ3, c1, c2, c3⟩ := ih f1 σ2 (by omega) (by omega) (by omega) (nb_Rx hR (by omega) (fun _ _ => rfl) (fun p k hp _ _ => (a3 _ _ (by omega)).symm)) (fun K h1 h2 h3 => by
        by_cases e : K = H + 1
        · subst e
          exact hb h3.2
        · exact hK K (by omega) h2 h3)
      exact ⟨r, σ3, c1, c2, fun p k hp => (c3 p k hp).trans (a3 p k hp)⟩
theorem cl_most {m c : Nat} {w : Nat → Nat} {σ : sg_S} (h : cl_A m w c σ) (hm : m < 8900) {t M : Nat} (ht : t < 5) (hM1 : 1 ≤ M) (hM : M ≤ 6) : ∃ H σ2, f_X7_most (nb t) (nb M) σ = some (nb H, σ2) ∧ wm_most w t M H ∧ gx_f1 σ σ2 := by
  obtain ⟨hR, hI, _⟩ := h
  obtain ⟨j1, j2, j3, j4, j5, j6, j7⟩ := id hI.2
  obtain ⟨b1, b2, b3, b4⟩ := j3 t ht
  obtain ⟨t1, t2⟩ := nb_townE ht
  have s5 : σ 5 t = nb (w (13 + 4 * t)) := nb_g4 hR.1 ht
  have s2 : σ 2 t = nb (w (10 + 4 * t)) := nb_g1 hR.1 ht
  have s9 : σ 9 0 = nb (w 1) := nb_g8 hR
  have e60 : (60 : Int32) - nb (w (10 + 4 * t)) = nb (60 - w (10 + 4 * t)) := nb_sub (a := 60) b1
  unfold f_X7_most
  rw [t1, nb_bnd, if_neg nb_10, cl_mo hM1 hM, nb_bnd, if_neg nb_10, nb_grd (nb_i5 ht), nb_t5 ht, s5, s2, s9, e60]
  by_cases c : w (13 + 4 * t) = 0
  · have l0 : nb (w (13 + 4 * t)) ≤ (0 : Int32) := by
      rw [c]
      decide
    rw [if_pos l0]
    by_cases c8 : w 1 = 8
    · rw [if_pos (by rw [c8]; decide)]
      exact ⟨0, σ, rfl, ⟨by decide, fun h => absurd h (by decide), fun K _ _ q => by have := q.1.2.1; omega⟩, gx_f1r σ⟩
    · rw [if_neg (show ¬ (8 : Int32) ≤ nb (w 1) from nb_le_f (a := 8) (by omega) (by decide)), nb_let]
      by_cases d : 60 - w (10 + 4 * t) < 20
      · rw [if_pos (show nb (60 - w (10 + 4 * t)) < (20 : Int32) from nb_lt_t (b := 20) d (by decide))]
        obtain ⟨r, σ2, a1, a2, a3⟩ := wm_loop hI hm ht (by omega) hM1 hM c (60 - w (10 + 4 * t)) 1000 σ (by omega) (by omega) (by omega) hR (fun K h1 h2 q => by have := q.1.2.2; omega)
        exact ⟨r, σ2, a1, a2, wp_f1 a3⟩
      · rw [if_neg (show ¬ nb (60 - w (10 + 4 * t)) < (20 : Int32) from nb_lt_f (b := 20) (by omega) (by omega))]
        obtain ⟨r, σ2, a1, a2, a3⟩ := wm_loop hI hm ht (by omega) hM1 hM c 20 1000 σ (by decide) (by decide) (by omega) hR (fun K h1 h2 q => by omega)
        exact ⟨r, σ2, a1, a2, wp_f1 a3⟩
  · rw [if_neg (show ¬ nb (w (13 + 4 * t)) ≤ (0 : Int32) from nb_le_f (b := 0) (by omega) (by omega))]
    exact ⟨0, σ, rfl, ⟨by decide, fun h => absurd h (by decide), fun K _ _ q => c q.1.1⟩, gx_f1r σ⟩
theorem cl_mostB (σ : sg_S) : f_X7_most 0 7 σ = some (-2, σ) := by
  have t1 : f_X7_isTown 0 = some 1 := by decide
  have t2 : f_X7_isMonths 7 = some 0 := by decide
  unfold f_X7_most
  rw [t1, nb_bnd, if_neg nb_10, t2, nb_bnd, if_pos rfl]
