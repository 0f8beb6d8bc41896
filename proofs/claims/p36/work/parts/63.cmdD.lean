/-! Credit -/
def gl_x (w : Nat → Nat) (t H M : Nat) : Nat → Nat := gw_p (gw_u (gw_u (gw_u w (55 + 3 * w 1) t) (56 + 3 * w 1) H) (57 + 3 * w 1) (w 0 + M)) 1 1
def gl_w (w : Nat → Nat) (t H M : Nat) : Nat → Nat := gw_p (gw_p (gl_x w t H M) (10 + 4 * t) H) 2 H
theorem gw_pc {w w2 : Nat → Nat} {k : Nat} (h : w k = w2 k) (j d : Nat) : gw_p w j d k = gw_p w2 j d k := by
  unfold gw_p
  rw [h]
theorem gl_xlo {w : Nat → Nat} {t H M x : Nat} (h1 : x ≠ 1) (h : x < 55 + 3 * w 1) : gl_x w t H M x = w x := by
  unfold gl_x
  rw [gw_pne _ _ h1, gw_ne _ _ (by omega), gw_ne _ _ (by omega), gw_ne _ _ (by omega)]
theorem gl_hi {w : Nat → Nat} {t H M x : Nat} (ht : t < 5) (h : 30 ≤ x) : gl_w w t H M x = gl_x w t H M x := by
  unfold gl_w
  rw [gw_pne _ _ (by omega), gw_pne _ _ (by omega)]
theorem gl_n {w : Nat → Nat} {t H M : Nat} : gl_w w t H M 1 = w 1 + 1 := by
  unfold gl_w
  rw [gw_pne _ _ (by omega), gw_pne _ _ (by omega)]
  unfold gl_x
  rw [gw_pat, gw_ne _ _ (by omega), gw_ne _ _ (by omega), gw_ne _ _ (by omega)]
theorem gl_0 {w : Nat → Nat} {t H M : Nat} : gl_w w t H M 0 = w 0 := by
  unfold gl_w
  rw [gw_pne _ _ (by omega), gw_pne _ _ (by omega), gl_xlo (by omega) (by omega)]
theorem gl_new {w : Nat → Nat} {t H M : Nat} (ht : t < 5) : gl_w w t H M (55 + 3 * w 1) = t ∧ gl_w w t H M (56 + 3 * w 1) = H ∧ gl_w w t H M (57 + 3 * w 1) = w 0 + M := by
  refine ⟨?_, ?_, ?_⟩
  · rw [gl_hi ht (by omega)]
    unfold gl_x
    rw [gw_pne _ _ (by omega), gw_ne _ _ (by omega), gw_ne _ _ (by omega), gw_at]
  · rw [gl_hi ht (by omega)]
    unfold gl_x
    rw [gw_pne _ _ (by omega), gw_ne _ _ (by omega), gw_at]
  · rw [gl_hi ht (by omega)]
    unfold gl_x
    rw [gw_pne _ _ (by omega), gw_at]
theorem gl_old {w : Nat → Nat} {t H M x : Nat} (ht : t < 5) (h : 30 ≤ x) (h2 : x < 55 + 3 * w 1) : gl_w w t H M x = w x := by
  rw [gl_hi ht h, gl_xlo (by omega) h2]
theorem gl_10 {w : Nat → Nat} {t H M q : Nat} (hq : q < 5) : gl_w w t H M (10 + 4 * q) = w (10 + 4 * q) + (if q = t then H else 0) := by
  unfold gl_w
  rw [gw_pne _ _ (by omega)]
  by_cases c : q = t
  · subst c
    rw [gw_pat, if_pos rfl, gl_xlo (by omega) (by omega)]
  · rw [gw_pne _ _ (by omega), if_neg c, gl_xlo (by omega) (by omega)]
    try rfl
theorem gl_oth {w : Nat → Nat} {t H M x : Nat} (h : x < 30) (h1 : x ≠ 1) (h2 : x ≠ 2) (h3 : x ≠ 10 + 4 * t) : gl_w w t H M x = w x := by
  unfold gl_w
  rw [gw_pne _ _ h2, gw_pne _ _ h3, gl_xlo h1 (by omega)]
theorem gl_add {κ : sg_S} {n : Nat} (h : κ 0 0 = nb n) (hn : n < 8) (a b d : Int32) : f_X1_add a b d κ = some (sg_up (sg_up (sg_up (sg_up κ 1 n a) 2 n b) 3 n d) 0 0 (nb (n + 1))) := by
  have e1 : ∀ v, sg_up κ 1 n v 0 0 = nb n := fun _ => h
  have e2 : ∀ v u, sg_up (sg_up κ 1 n v) 2 n u 0 0 = nb n := fun _ _ => h
  have e3 : ∀ v u x, sg_up (sg_up (sg_up κ 1 n v) 2 n u) 3 n x 0 0 = nb n := fun _ _ _ => h
  unfold f_X1_add
  rw [h, if_pos (show nb n < (8 : Int32) from nb_lt_t (b := 8) hn (by decide)), nb_grd (nb_i8 hn), nb_t8 hn, nb_let, e1, nb_grd (nb_i8 hn), nb_t8 hn, nb_let, e2, nb_grd (nb_i8 hn), nb_t8 hn, nb_let, e3, nb_let, nb_succ]
theorem gl_give {ρ : sg_S} {w : Nat → Nat} {t H M : Nat} (hR : nb_R ρ w) (h8 : w 1 < 8) (ht : t < 5) : ∃ ρ2, f_X3_giveCredit (nb t) (nb H) (nb M) ρ = some ρ2 ∧ nb_R ρ2 (gl_w w t H M) := by
  have n1 := nb_Np hR.1 (p := 1) (k := t) (j := 10 + 4 * t) (by unfold nb_lk; omega) H
  have n2 := nb_Np n1 (p := 12) (k := 0) (j := 2) (by unfold nb_lk; omega) H
  generalize e5 : sg_up (sg_up ρ 1 t (ρ 1 t + nb H)) 12 0 (sg_up ρ 1 t (ρ 1 t + nb H) 12 0 + nb H) = σ5 at n2
  have h5 : ∀ p k, p ≠ 1 → p ≠ 12 → σ5 p k = ρ p k := fun p k h1 h2 => by
    rw [← e5, nb_up, if_neg (by omega), nb_up, if_neg (by omega)]
  have e0 : σ5 0 0 = nb (w 0) := (h5 0 0 (by decide) (by decide)).trans (nb_g0 hR.1)
  have e8 : (sg_e1 8 σ5) 0 0 = nb (w 1) := (h5 8 0 (by decide) (by decide)).trans (nb_g8 hR)
  have k1 : ∀ c, c < w 1 → ∀ j, 55 ≤ j → j < 58 → gl_w w t H M (j + 3 * c) = w (j + 3 * c) := fun c hc j h1 h2 => gl_old ht (by omega) (by omega)
  obtain ⟨nw1, nw2, nw3⟩ := gl_new (w := w) (t := t) (H := H) (M := M) ht
  refine ⟨sg_m1 8 4 σ5 (sg_up (sg_up (sg_up (sg_up (sg_e1 8 σ5) 1 (w 1) (nb t)) 2 (w 1) (nb H)) 3 (w 1) (nb (w 0 + M))) 0 0 (nb (w 1 + 1))), ?_, nb_Nx n2 (fun k hk h1 => ?_) (fun p k hp => ?_), ?_, fun c hc => ?_⟩
  · unfold f_X3_giveCredit
    rw [(nb_townE ht).1, nb_bnd, if_neg nb_10, nb_grd (nb_i5 ht), nb_t5 ht, nb_let, nb_let, e5, e0, nb_add, gl_add e8 h8, nb_bnd, nb_let]
  · unfold gl_w
    exact gw_pc (gw_pc (gl_xlo h1 (by omega)).symm _ _) _ _
  · rw [nb_m1, if_neg (by omega)]
  · show sg_m1 8 4 σ5 _ 8 0 = _
    rw [nb_m1, if_pos (by omega), nb_upE, gl_n]
  · rw [gl_n] at hc
    have z1 : ∀ p, 1 ≤ p → p < 4 → ∀ κ : sg_S, sg_e1 8 (sg_m1 8 4 σ5 κ) p c = κ p c := fun p h1 h2 κ => by
      show sg_m1 8 4 σ5 κ (8 + p) c = _
      rw [nb_m1, if_pos (by omega), (by omega : 8 + p - 8 = p)]
    rw [z1 1 (by decide) (by decide), z1 2 (by decide) (by decide), z1 3 (by decide) (by decide)]
    by_cases d : c = w 1
    · subst d
      rw [nw1, nw2, nw3]
      refine ⟨?_, ?_, ?_⟩
      · rw [nb_up, if_neg (by omega), nb_up, if_neg (by omega), nb_up, if_neg (by omega), nb_upE]
      · rw [nb_up, if_neg (by omega), nb_up, if_neg (by omega), nb_upE]
      · rw [nb_up, if_neg (by omega), nb_upE]
    · obtain ⟨a1, a2, a3⟩ := hR.2.2 c (by omega)
      rw [k1 c (by omega) 55 (by omega) (by omega), k1 c (by omega) 56 (by omega) (by omega), k1 c (by omega) 57 (by omega) (by omega)]
      refine ⟨?_, ?_, ?_⟩
      · rw [nb_up, if_neg (by omega), nb_up, if_neg (by omega), nb_up, if_neg (by omega), nb_up, if_neg (by omega)]
        exact (h5 9 c (by decide) (by decide)).trans a1
      · rw [nb_up, if_neg (by omega), nb_up, if_neg (by omega), nb_up, if_neg (by omega), nb_up, if_neg (by omega)]
        exact (h5 10 c (by decide) (by decide)).trans a2
      · rw [nb_up, if_neg (by omega), nb_up, if_neg (by omega), nb_up, if_neg (by omega), nb_up, if_neg (by omega)]
        exact (h5 11 c (by decide) (by decide)).trans a3
theorem gl_sle (p : Nat → Bool) (h : Nat → Nat) (B : Nat) : ∀ n, (∀ c, c < n → h c ≤ B) → gc_s p h n ≤ B * n := by
  intro n
  induction n with
  | zero =>
    intro _
    exact Nat.le_refl _
  | succ n ih =>
    intro hb
    have q := ih (fun c hc => hb c (by omega))
    have q2 := hb n (by omega)
    rw [gc_s, Nat.mul_succ]
    by_cases d : p n = true
    · rw [if_pos d]
      omega
    · rw [if_neg d]
      omega
theorem gl_by {w : Nat → Nat} {t H M q : Nat} (ht : t < 5) : gc_by (gl_w w t H M) q = gc_by w q + (if t = q then H else 0) := by
  obtain ⟨nw1, nw2, nw3⟩ := gl_new (w := w) (t := t) (H := H) (M := M) ht
  unfold gc_by
  rw [gl_n, gc_s]
  have e := gc_sx (p := fun c => decide (gl_w w t H M (55 + 3 * c) = q)) (p2 := fun c => decide (w (55 + 3 * c) = q)) (h := fun c => gl_w w t H M (56 + 3 * c)) (h2 := fun c => w (56 + 3 * c)) (n := w 1) (fun c hc => by
    refine ⟨?_, gl_old ht (by omega) (by omega)⟩
    show decide (gl_w w t H M (55 + 3 * c) = q) = decide (w (55 + 3 * c) = q)
    rw [gl_old ht (by omega) (by omega)])
  rw [e]
  show _ + (if decide (gl_w w t H M (55 + 3 * w 1) = q) = true then gl_w w t H M (56 + 3 * w 1) else 0) = _
  rw [nw1, nw2]
  by_cases d : t = q
  · rw [if_pos d, if_pos (decide_eq_true d)]
  · rw [if_neg d, if_neg (fun c => d (of_decide_eq_true c))]
theorem gl_J {w : Nat → Nat} {t H M : Nat} (h : gs_J w (w 1)) (ht : t < 5) (h8 : w 1 < 8) (hH1 : 1 ≤ H) (hH : H ≤ 20) (hM1 : 1 ≤ M) (hM : M ≤ 6) (h0 : w (13 + 4 * t) = 0) (h60 : w (10 + 4 * t) + H ≤ 60) : gs_J (gl_w w t H M) (gl_w w t H M 1) := by
  obtain ⟨j1, j2, j3, j4, j5, j6, j7⟩ := h
  obtain ⟨nw1, nw2, nw3⟩ := gl_new (w := w) (t := t) (H := H) (M := M) ht
  have e1 := gl_n (w := w) (t := t) (H := H) (M := M)
  have e0 := gl_0 (w := w) (t := t) (H := H) (M := M)
  refine ⟨by omega, by omega, fun q hq => ?_, fun a b ha hb => ?_, fun q hq => ?_, fun c hc => ?_, fun c hc => ?_⟩
  · obtain ⟨b1, b2, b3, b4⟩ := j3 q hq
    rw [gl_10 hq, gl_oth (x := 11 + 4 * q) (by omega) (by omega) (by omega) (by omega), gl_oth (x := 12 + 4 * q) (by omega) (by omega) (by omega) (by omega), gl_oth (x := 13 + 4 * q) (by omega) (by omega) (by omega) (by omega), gl_by ht]
    have s := gl_sle (fun c => decide (w (55 + 3 * c) = q)) (fun c => w (56 + 3 * c)) 20 (w 1) (fun c hc => (j6 c hc).2.2.1)
    have s2 : gc_by w q ≤ 20 * w 1 := s
    by_cases d : q = t
    · subst d
      rw [if_pos rfl]
      omega
    · rw [if_neg d, if_neg (fun c => d c.symm)]
      omega
  · rw [gl_old ht (by omega) (by omega), gl_old ht (by omega) (by omega)]
    exact j4 a b ha hb
  · rw [gl_old ht (by omega) (by omega)]
    exact j5 q hq
  · rw [e1] at hc
    rw [e0]
    by_cases d : c = w 1
    · rw [d, nw1, nw2, nw3]
      omega
    · rw [gl_old ht (by omega) (by omega), gl_old ht (by omega) (by omega), gl_old ht (by omega) (by omega)]
      exact j6 c (by omega)
  · rw [e1] at hc
    rw [e0]
    by_cases d : c = w 1
    · rw [d, nw3]
      omega
    · rw [gl_old ht (by omega) (by omega)]
      exact j7 c (by omega)
theorem gl_credit1 {w : Nat → Nat} {σ : sg_S} {t H M : Nat} (hR : nb_R (sg_e1 1 σ) w) (h8 : w 1 < 8) (ht : t < 5) (hH : H ≤ 20) (h0 : w (13 + 4 * t) = 0) (h60 : w (10 + 4 * t) + H ≤ 60) (u1 : f_X7_isHours (nb H) = some 1) (v1 : f_X7_isMonths (nb M) = some 1) : wk_K (f_X7_lend (nb t) (nb H) (nb M) σ) (gq_S1 (gl_w w t H M) σ (w 1)) := by
  have s5 : σ 5 t = nb (w (13 + 4 * t)) := nb_g4 hR.1 ht
  have s2 : σ 2 t = nb (w (10 + 4 * t)) := nb_g1 hR.1 ht
  have s9 : σ 9 0 = nb (w 1) := nb_g8 hR
  unfold f_X7_lend
  refine wk_bnd (nb_townE ht).1 (wk_f nb_10 (wk_bnd u1 (wk_f nb_10 (wk_bnd v1 (wk_f nb_10 (wk_grd (nb_i5 ht) ?_))))))
  rw [nb_t5 ht, s5, s2, s9, h0, nb_add]
  refine wk_f nb_npos (wk_f (nb_le_f (a := 8) h8 (by decide)) (wk_f (nb_lt_f (a := 60) h60 (by decide)) ?_))
  obtain ⟨ρ2, e1, e2⟩ := gl_give (H := H) (M := M) hR h8 ht
  refine wk_bnd e1 (wk_let (fun σ8 e8 => wk_r ⟨?_, by rw [e8]; exact gq_Rm1 e2 (by rw [gl_n]; omega), by rw [e8]; exact gq_Pm1 (gq_Prf σ) (by decide)⟩))
  have z : σ8 9 0 = nb (w 1 + 1) := by
    rw [e8, nb_m1, if_pos (by omega)]
    have := nb_g8 e2
    rw [gl_n] at this
    exact this
  show σ8 9 0 - 1 = _
  rw [z]
  exact nb_sub (b := 1) (by omega)
theorem gl_credit2 {w : Nat → Nat} {τ : sg_S} {t H M : Nat} (hV : nb_V (τ 1) w) (h8 : w 1 < 8) (ht : t < 5) (hH : H ≤ 20) (h0 : w (13 + 4 * t) = 0) (h60 : w (10 + 4 * t) + H ≤ 60) (u2 : f_X8_isIn (nb H) 1 20 = some 1) (v2 : f_X8_isIn (nb M) 1 6 = some 1) : wk_K (f_X8_credits (nb t) (nb H) (nb M) τ) (gq_S2 (gl_w w t H M) τ (w 1)) := by
  have e60 : (60 : Int32) - nb (w (10 + 4 * t)) = nb (60 - w (10 + 4 * t)) := nb_sub (a := 60) (by omega)
  unfold f_X8_credits
  refine wk_bnd (nb_townE ht).2 (wk_f nb_10 (wk_bnd u2 (wk_f nb_10 (wk_bnd v2 (wk_f nb_10 ?_)))))
  rw [hV 1 (by decide)]
  refine wk_lets (wk_bnd (nb_at0 t) (wk_grd (nb_i79 (by omega)) ?_))
  rw [nb_t79 (by omega), hV (10 + 4 * t) (by omega), e60]
  refine wk_lets (wk_bnd (nb_at3 t) (wk_grd (nb_i79 (by omega)) ?_))
  rw [nb_t79 (by omega), hV (13 + 4 * t) (by omega), h0]
  refine wk_f nb_npos (wk_f (nb_ne (b := 8) (by omega) (by omega) (by decide)) (wk_f (nb_lt_f (by omega) (by omega)) (wk_bnd (nb_in0 (w 1)) (wk_grd (nb_i79 (by omega)) ?_))))
  rw [nb_t79 (by omega)]
  refine wk_let (fun σ4 e4 => ?_)
  have V4 : nb_V (σ4 1) (gw_u w (55 + 3 * w 1) t) := by
    rw [e4]
    exact nb_Vu hV _ _
  have F4 : nb_F0 τ σ4 := by
    rw [e4]
    exact nb_F0u _ _ _
  refine wk_bnd (nb_in1 (w 1)) (wk_grd (nb_i79 (by omega)) ?_)
  rw [nb_t79 (by omega)]
  refine wk_let (fun σ5 e5 => ?_)
  have V5 : nb_V (σ5 1) (gw_u (gw_u w (55 + 3 * w 1) t) (56 + 3 * w 1) H) := by
    rw [e5]
    exact nb_Vu V4 _ _
  have F5 : nb_F0 τ σ5 := by
    rw [e5]
    exact nb_F0tr F4 (nb_F0u _ _ _)
  refine wk_bnd (nb_in2 (w 1)) (wk_grd (nb_i79 (by omega)) ?_)
  rw [nb_t79 (by omega), V5 0 (by decide), gw_ne _ _ (by omega), gw_ne _ _ (by omega), nb_add]
  refine wk_let (fun σ6 e6 => ?_)
  have V6 : nb_V (σ6 1) (gw_u (gw_u (gw_u w (55 + 3 * w 1) t) (56 + 3 * w 1) H) (57 + 3 * w 1) (w 0 + M)) := by
    rw [e6]
    exact nb_Vu V5 _ _
  have F6 : nb_F0 τ σ6 := by
    rw [e6]
    exact nb_F0tr F5 (nb_F0u _ _ _)
  refine wk_let (fun σ7 e7 => ?_)
  have V7 : nb_V (σ7 1) (gl_x w t H M) := by
    rw [e7]
    exact nb_Vp V6 (by decide) 1
  have F7 : nb_F0 τ σ7 := by
    rw [e7]
    exact nb_F0tr F6 (nb_F0u _ _ _)
  refine wk_bnd (nb_at0 t) (wk_grd (nb_i79 (by omega)) ?_)
  rw [nb_t79 (by omega)]
  refine wk_let (fun σ8 e8 => ?_)
  have V8 : nb_V (σ8 1) (gw_p (gl_x w t H M) (10 + 4 * t) H) := by
    rw [e8]
    exact nb_Vp V7 (by omega) H
  have F8 : nb_F0 τ σ8 := by
    rw [e8]
    exact nb_F0tr F7 (nb_F0u _ _ _)
  refine wk_let (fun σ9 e9 => wk_r ⟨rfl, ?_, ?_⟩)
  · show nb_V (σ9 1) _
    rw [e9]
    exact nb_Vp V8 (by decide) H
  · show nb_F τ σ9
    rw [e9]
    exact nb_Fw (nb_F0tr F8 (nb_F0u _ _ _))
theorem ge_credit {m : Nat} {w : Nat → Nat} {t H M : Nat} (h : ge_E m w) (ht : t < 5) (hH : H ≤ 20) : ge_E (m + 1) (gl_w w t H M) := by
  obtain ⟨a, b, c, d1, d2, d3, d4, d5, d6⟩ := h
  have oth : ∀ x, 3 ≤ x → x < 10 → gl_w w t H M x = w x := fun x h3 hx => gl_oth (by omega) (by omega) (by omega) (by omega)
  have e2 : gl_w w t H M 2 = w 2 + H := by
    unfold gl_w
    rw [gw_pat, gw_pne _ _ (by omega), gl_xlo (by decide) (by omega)]
  have hs := ge_su (w := w) (w2 := gl_w w t H M) ht (v := w (10 + 4 * t) + H) (fun q hq => by
    rw [gl_10 hq]
    by_cases d : q = t
    · subst d
      rw [if_pos rfl, if_pos rfl]
    · rw [if_neg d, if_neg d, Nat.add_zero])
  have k1 := gl_n (w := w) (t := t) (H := H) (M := M)
  have k3 := oth 3 (by decide) (by decide)
  have k4 := oth 4 (by decide) (by decide)
  have k5 := oth 5 (by decide) (by decide)
  have k6 := oth 6 (by decide) (by decide)
  have k7 := oth 7 (by decide) (by decide)
  have k8 := oth 8 (by decide) (by decide)
  have k9 := oth 9 (by decide) (by decide)
  exact ⟨by omega, by omega, by omega, by omega, by omega, by omega, by omega, by omega, by omega⟩
theorem gq_credit {m : Nat} {w : Nat → Nat} {σ τ : sg_S} (h : gq_H m w σ τ) (x y z : Int32) : gq_A m w σ τ (f_X7_lend x y z σ) (f_X8_credits x y z τ) := by
  have h0 := h
  obtain ⟨hR, hV, hI, hW, hz, hm, h6⟩ := h
  rcases nb_town x with ⟨t, ht, e, t1, t2⟩ | ⟨t1, t2⟩
  · subst e
    rcases nb_hours y with ⟨H, hH1, hH, e, u1, u2⟩ | ⟨u1, u2⟩
    · subst e
      rcases nb_months z with ⟨M, hM1, hM, e, v1, v2⟩ | ⟨v1, v2⟩
      · subst e
        obtain ⟨j1, j2, j3, j4, j5, j6, j7⟩ := hI.2
        obtain ⟨b1, b2, b3, b4⟩ := j3 t ht
        have s5 : σ 5 t = nb (w (13 + 4 * t)) := nb_g4 hR.1 ht
        have s2 : σ 2 t = nb (w (10 + 4 * t)) := nb_g1 hR.1 ht
        have s9 : σ 9 0 = nb (w 1) := nb_g8 hR
        have e60 : (60 : Int32) - nb (w (10 + 4 * t)) = nb (60 - w (10 + 4 * t)) := nb_sub (a := 60) b1
        by_cases c : w (13 + 4 * t) = 0
        · by_cases c2 : w 1 = 8
          · refine gq_Ae ?_ ?_ (gq_ref h0 1 8 (by decide))
            · unfold f_X7_lend
              rw [t1, nb_bnd, if_neg nb_10, u1, nb_bnd, if_neg nb_10, v1, nb_bnd, if_neg nb_10, nb_grd (nb_i5 ht), nb_t5 ht, s5, c, if_neg nb_npos, s9, c2, if_pos (by decide)]
              try rfl
            · unfold f_X8_credits
              rw [t2, nb_bnd, if_neg nb_10, u2, nb_bnd, if_neg nb_10, v2, nb_bnd, if_neg nb_10, hV 1 (by decide), nb_let, nb_at0, nb_bnd, nb_grd (nb_i79 (by omega)), nb_let, nb_at3, nb_bnd, nb_grd (nb_i79 (by omega)), nb_t79 (i := 13 + 4 * t) (by omega), hV (13 + 4 * t) (by omega), c, if_neg nb_npos, c2, if_pos (by decide)]
              try rfl
          · by_cases c3 : 60 < w (10 + 4 * t) + H
            · refine gq_Ae ?_ ?_ (gq_ref h0 3 (nb (60 - w (10 + 4 * t))) (by decide))
              · unfold f_X7_lend
                rw [t1, nb_bnd, if_neg nb_10, u1, nb_bnd, if_neg nb_10, v1, nb_bnd, if_neg nb_10, nb_grd (nb_i5 ht), nb_t5 ht, s5, c, if_neg nb_npos, s9, if_neg (show ¬ (8 : Int32) ≤ nb (w 1) from nb_le_f (a := 8) (by omega) (by decide)), s2, nb_add, if_pos (show (60 : Int32) < nb (w (10 + 4 * t) + H) from nb_lt_t (a := 60) c3 (by omega)), e60]
                try rfl
              · unfold f_X8_credits
                rw [t2, nb_bnd, if_neg nb_10, u2, nb_bnd, if_neg nb_10, v2, nb_bnd, if_neg nb_10, hV 1 (by decide), nb_let, nb_at0, nb_bnd, nb_grd (nb_i79 (by omega)), nb_t79 (by omega), hV (10 + 4 * t) (by omega), e60, nb_let, nb_at3, nb_bnd, nb_grd (nb_i79 (by omega)), nb_t79 (i := 13 + 4 * t) (by omega), hV (13 + 4 * t) (by omega), c, if_neg nb_npos, if_neg (show ¬ nb (w 1) = 8 from nb_ne (b := 8) c2 (by omega) (by decide)), if_pos (nb_lt_t (by omega) (by omega))]
                try rfl
            · refine gq_fin h0 (n := w 1) (by omega) (gl_credit1 hR (by omega) ht hH c (by omega) u1 v1) (gl_credit2 hV (by omega) ht hH c (by omega) u2 v2) ⟨?_, gl_J hI.2 ht (by omega) hH1 hH hM1 hM c (by omega)⟩
              refine ⟨?_, ge_credit hI.1.2 ht hH⟩
              rw [gl_0]
              exact Nat.le_succ_of_le hI.1.1
        · refine gq_Ae ?_ ?_ (gq_ref h0 2 (nb (w (13 + 4 * t))) (by decide))
          · unfold f_X7_lend
            rw [t1, nb_bnd, if_neg nb_10, u1, nb_bnd, if_neg nb_10, v1, nb_bnd, if_neg nb_10, nb_grd (nb_i5 ht), nb_t5 ht, s5, if_pos (nb_pos (by omega) (by omega))]
            try rfl
          · unfold f_X8_credits
            rw [t2, nb_bnd, if_neg nb_10, u2, nb_bnd, if_neg nb_10, v2, nb_bnd, if_neg nb_10, nb_let, nb_at0, nb_bnd, nb_grd (nb_i79 (by omega)), nb_let, nb_at3, nb_bnd, nb_grd (nb_i79 (by omega)), nb_t79 (i := 13 + 4 * t) (by omega), hV (13 + 4 * t) (by omega), if_pos (nb_pos (by omega) (by omega)), nb_bnd, nb_grd (nb_i79 (by omega)), nb_t79 (i := 13 + 4 * t) (by omega), hV (13 + 4 * t) (by omega)]
            try rfl
      · refine gq_Ae ?_ ?_ (gq_bad h0 (r := -2) (Or.inr rfl))
        · unfold f_X7_lend
          rw [t1, nb_bnd, if_neg nb_10, u1, nb_bnd, if_neg nb_10, v1, nb_bnd, if_pos rfl]
        · unfold f_X8_credits
          rw [t2, nb_bnd, if_neg nb_10, u2, nb_bnd, if_neg nb_10, v2, nb_bnd, if_pos rfl]
    · refine gq_Ae ?_ ?_ (gq_bad h0 (r := -2) (Or.inr rfl))
      · unfold f_X7_lend
        rw [t1, nb_bnd, if_neg nb_10, u1, nb_bnd, if_pos rfl]
      · unfold f_X8_credits
        rw [t2, nb_bnd, if_neg nb_10, u2, nb_bnd, if_pos rfl]
  · refine gq_Ae ?_ ?_ (gq_bad h0 (r := -1) (Or.inl rfl))
    · unfold f_X7_lend
      rw [t1, nb_bnd, if_pos rfl]
    · unfold f_X8_credits
      rw [t2, nb_bnd, if_pos rfl]
