/-! PAY: a credit that is due; the class pays and keeps its rows close, the reference takes it away first -/
def gp_p (w : Nat → Nat) (t h : Nat) : Nat := if w (10 + 4 * t) < h then w (10 + 4 * t) else h
theorem gp_ph (w : Nat → Nat) (t h : Nat) : gp_p w t h ≤ h := by
  unfold gp_p
  by_cases c : w (10 + 4 * t) < h
  · rw [if_pos c]
    omega
  · rw [if_neg c]
    exact Nat.le_refl h
theorem gp_ps (w : Nat → Nat) (t h : Nat) : gp_p w t h ≤ w (10 + 4 * t) := by
  unfold gp_p
  by_cases c : w (10 + 4 * t) < h
  · rw [if_pos c]
    exact Nat.le_refl _
  · rw [if_neg c]
    omega
def gp_5 (w : Nat → Nat) (t h : Nat) : Nat → Nat := gw_p (gw_p (gw_p (gw_p (gw_m w (10 + 4 * t) (gp_p w t h)) (13 + 4 * t) (h - gp_p w t h)) 3 (gp_p w t h)) 6 (2 * (h - gp_p w t h))) 7 1
def gp_w (w : Nat → Nat) (t h : Nat) : Nat → Nat := if h - gp_p w t h = 0 then gw_p (gp_5 w t h) 8 1 else gp_5 w t h
theorem gp_5ne {w : Nat → Nat} {t h x : Nat} (hx : x ≠ 10 + 4 * t ∧ x ≠ 13 + 4 * t ∧ x ≠ 3 ∧ x ≠ 6 ∧ x ≠ 7) : gp_5 w t h x = w x := by
  unfold gp_5
  rw [gw_pne _ _ (by omega), gw_pne _ _ (by omega), gw_pne _ _ (by omega), gw_pne _ _ (by omega), gw_mne _ _ (by omega)]
theorem gp_ne {w : Nat → Nat} {t h x : Nat} (hx : x ≠ 10 + 4 * t ∧ x ≠ 13 + 4 * t ∧ x ≠ 3 ∧ x ≠ 6 ∧ x ≠ 7 ∧ x ≠ 8) : gp_w w t h x = w x := by
  unfold gp_w
  by_cases c : h - gp_p w t h = 0
  · rw [if_pos c, gw_pne _ _ (by omega), gp_5ne (by omega)]
  · rw [if_neg c, gp_5ne (by omega)]
theorem gp_10 {w : Nat → Nat} {t h : Nat} (ht : t < 5) : gp_w w t h (10 + 4 * t) = w (10 + 4 * t) - gp_p w t h := by
  have e : gp_5 w t h (10 + 4 * t) = w (10 + 4 * t) - gp_p w t h := by
    unfold gp_5
    rw [gw_pne _ _ (by omega), gw_pne _ _ (by omega), gw_pne _ _ (by omega), gw_pne _ _ (by omega), gw_mat]
  unfold gp_w
  by_cases c : h - gp_p w t h = 0
  · rw [if_pos c, gw_pne _ _ (by omega), e]
  · rw [if_neg c, e]
theorem gp_13 {w : Nat → Nat} {t h : Nat} (ht : t < 5) : gp_w w t h (13 + 4 * t) = w (13 + 4 * t) + (h - gp_p w t h) := by
  have e : gp_5 w t h (13 + 4 * t) = w (13 + 4 * t) + (h - gp_p w t h) := by
    unfold gp_5
    rw [gw_pne _ _ (by omega), gw_pne _ _ (by omega), gw_pne _ _ (by omega), gw_pat, gw_mne _ _ (by omega)]
  unfold gp_w
  by_cases c : h - gp_p w t h = 0
  · rw [if_pos c, gw_pne _ _ (by omega), e]
  · rw [if_neg c, e]
theorem gp_class {ρ : sg_S} {w : Nat → Nat} {t h : Nat} (hN : nb_N ρ w) (ht : t < 5) (hs : w (10 + 4 * t) < 2147483648) (hh : h < 2147483648) : ∃ ρ2, f_X3_payFor (nb t) (nb h) ρ = some (nb (h - gp_p w t h), ρ2) ∧ nb_N ρ2 (gp_w w t h) ∧ (∀ p, 8 ≤ p → p < 12 → ρ2 p = ρ p) := by
  have h1 := nb_Nm hN (p := 1) (k := t) (j := 10 + 4 * t) (d := gp_p w t h) (by unfold nb_lk; omega) (gp_ps w t h)
  have h2 := nb_Np h1 (p := 4) (k := t) (j := 13 + 4 * t) (by unfold nb_lk; omega) (h - gp_p w t h)
  have h3 := nb_Np h2 (p := 12) (k := 1) (j := 3) (by unfold nb_lk; omega) (gp_p w t h)
  have h4 := nb_Np h3 (p := 12) (k := 5) (j := 6) (by unfold nb_lk; omega) (2 * (h - gp_p w t h))
  have h5 := nb_Np h4 (p := 12) (k := 6) (j := 7) (by unfold nb_lk; omega) 1
  have h6 := nb_Np h5 (p := 12) (k := 7) (j := 8) (by unfold nb_lk; omega) 1
  have e4 : (if nb h < ρ 1 t then nb h else ρ 1 t) = nb (gp_p w t h) := by
    rw [nb_g1 hN ht]
    unfold gp_p
    by_cases c : w (10 + 4 * t) < h
    · rw [if_pos c, if_neg (nb_lt_f (by omega) hh)]
    · rw [if_neg c]
      by_cases d : h < w (10 + 4 * t)
      · rw [if_pos (nb_lt_t d hs)]
      · rw [if_neg (nb_lt_f (by omega) hh), (by omega : w (10 + 4 * t) = h)]
  have e5 : (2 : Int32) * nb (h - gp_p w t h) = nb (2 * (h - gp_p w t h)) := nb_mul 2 _
  have hp := gp_ph w t h
  unfold f_X3_payFor
  rw [(nb_townE ht).1, nb_bnd, if_neg nb_10, nb_grd (nb_i5 ht), nb_t5 ht, e4, nb_let, nb_sub hp, nb_let, e5]
  by_cases c : h - gp_p w t h = 0
  · have e : gp_w w t h = gw_p (gp_5 w t h) 8 1 := if_pos c
    rw [e]
    refine ⟨_, ?_, h6, fun p h8 h12 => ?_⟩
    · rw [nb_let, nb_let, nb_let, nb_let, nb_let, if_pos (show nb (h - gp_p w t h) = 0 by rw [c]; try rfl), nb_let]
      try rfl
    · funext k
      rw [nb_up, if_neg (by omega), nb_up, if_neg (by omega), nb_up, if_neg (by omega), nb_up, if_neg (by omega), nb_up, if_neg (by omega), nb_up, if_neg (by omega)]
  · have e : gp_w w t h = gp_5 w t h := if_neg c
    rw [e]
    refine ⟨_, ?_, h5, fun p h8 h12 => ?_⟩
    · rw [nb_let, nb_let, nb_let, nb_let, nb_let, if_neg (show ¬ nb (h - gp_p w t h) = 0 from nb_ne (b := 0) c (by omega) (by decide))]
      try rfl
    · funext k
      rw [nb_up, if_neg (by omega), nb_up, if_neg (by omega), nb_up, if_neg (by omega), nb_up, if_neg (by omega), nb_up, if_neg (by omega)]
/-- a credit is taken away: those behind it move up -/
def gm_go (w : Nat → Nat) (c : Nat) : Nat → Nat := fun k => if k = 1 then w 1 - 1 else if 55 + 3 * c ≤ k ∧ k < 79 then (if k + 3 < 79 then w (k + 3) else 0) else w k
def gm_gz (w : Nat → Nat) (c z : Nat) : Nat → Nat := fun k => if 55 + 3 * c ≤ k ∧ k < z then (if k + 3 < 79 then w (k + 3) else 0) else w k
theorem gm_goes {τ : sg_S} {w : Nat → Nat} {c : Nat} (hV : nb_V (τ 1) w) (hc : c < 8) (h1 : 1 ≤ w 1) : ∃ τ2, f_X8_goes (nb c) τ = some τ2 ∧ nb_V (τ2 1) (gm_go w c) ∧ (∀ p k, p ≠ 1 → τ2 p k = τ p k) := by
  have L : ∀ m z n (σ : sg_S), z + m = 79 → 55 + 3 * c ≤ z → m < n → nb_V (σ 1) (gm_gz w c z) → ∃ τ2, f_X8_goes_L6 (nb c) n (nb z) σ = some τ2 ∧ nb_V (τ2 1) (gm_go w c) ∧ (∀ p k, p ≠ 1 → τ2 p k = σ p k) := by
    intro m
    induction m with
    | zero =>
      intro z n σ hz hcz hn h
      obtain ⟨n, rfl⟩ : ∃ k, n = k + 1 := ⟨n - 1, by omega⟩
      have e : z = 79 := by omega
      subst e
      have e1 : gm_gz w c 79 1 = w 1 := if_neg (by omega)
      have hm := nb_Vm h (k := 1) (d := 1) (by decide) (by rw [e1]; exact h1)
      refine ⟨_, ?_, nb_Vx hm (fun k hk => ?_), fun p k hp => ?_⟩
      · rw [f_X8_goes_L6, if_neg (by decide), nb_let]
        try rfl
      · unfold gw_m gm_go gm_gz
        by_cases d : k = 1
        · subst d
          rw [if_pos rfl, if_pos rfl, if_neg (by omega)]
        · rw [if_neg d, if_neg d]
      · rw [nb_up, if_neg (fun d => hp d.1)]
    | succ m ih =>
      intro z n σ hz hcz hn h
      obtain ⟨n, rfl⟩ : ∃ k, n = k + 1 := ⟨n - 1, by omega⟩
      have e3 : nb z + 3 = nb (z + 3) := nb_add z 3
      have key : ∀ x, x = (if z + 3 < 79 then w (z + 3) else 0) → nb_V (sg_up σ 1 z (nb x) 1) (gm_gz w c (z + 1)) := by
        intro x hx
        refine nb_Vx (nb_Vu h z x) (fun k hk => ?_)
        unfold gw_u gm_gz
        by_cases d : k = z
        · subst d
          rw [if_pos rfl, if_pos (by omega), hx]
        · rw [if_neg d]
          by_cases d2 : 55 + 3 * c ≤ k ∧ k < z
          · rw [if_pos d2, if_pos (show 55 + 3 * c ≤ k ∧ k < z + 1 by omega)]
          · rw [if_neg d2, if_neg (by omega)]
      by_cases d : z + 3 < 79
      · obtain ⟨τ2, a, b, f⟩ := ih (z + 1) n (sg_up σ 1 z (nb (w (z + 3)))) (by omega) (by omega) (by omega) (key _ (by rw [if_pos d]))
        refine ⟨τ2, ?_, b, fun p k hp => ?_⟩
        · have e4 : σ 1 (z + 3) = nb (w (z + 3)) := by
            rw [h (z + 3) d]
            unfold gm_gz
            rw [if_neg (by omega)]
          rw [f_X8_goes_L6, if_pos (show nb z < (79 : Int32) from nb_lt_t (b := 79) (by omega) (by decide)), e3, if_pos (show nb (z + 3) < (79 : Int32) from nb_lt_t (b := 79) d (by decide)), nb_grd (nb_i79 d), nb_grd (nb_i79 (by omega)), nb_let, nb_t79 (by omega), nb_t79 d, e4, nb_succ]
          exact a
        · rw [f p k hp, nb_up, if_neg (fun q => hp q.1)]
      · obtain ⟨τ2, a, b, f⟩ := ih (z + 1) n (sg_up σ 1 z (nb 0)) (by omega) (by omega) (by omega) (key 0 (by rw [if_neg d]))
        refine ⟨τ2, ?_, b, fun p k hp => ?_⟩
        · rw [f_X8_goes_L6, if_pos (show nb z < (79 : Int32) from nb_lt_t (b := 79) (by omega) (by decide)), e3, if_neg (show ¬ nb (z + 3) < (79 : Int32) from nb_lt_f (b := 79) (by omega) (by omega)), nb_grd (nb_i79 (by omega)), nb_let, nb_t79 (by omega), nb_succ]
          exact a
        · rw [f p k hp, nb_up, if_neg (fun q => hp q.1)]
  unfold f_X8_goes
  rw [nb_in0, nb_bnd]
  refine L (79 - (55 + 3 * c)) (55 + 3 * c) 1000 τ (by omega) (Nat.le_refl _) (by omega) (nb_Vx hV (fun k hk => ?_))
  unfold gm_gz
  rw [if_neg (by omega)]
theorem gm_lo {w : Nat → Nat} {c k : Nat} (h1 : k ≠ 1) (h : k < 55 + 3 * c) : gm_go w c k = w k := by
  unfold gm_go
  rw [if_neg h1, if_neg (by omega)]
theorem gm_1 (w : Nat → Nat) (c : Nat) : gm_go w c 1 = w 1 - 1 := if_pos rfl
theorem gm_hi {w : Nat → Nat} {c k : Nat} (h : 55 + 3 * c ≤ k) (h2 : k + 3 < 79) : gm_go w c k = w (k + 3) := by
  unfold gm_go
  rw [if_neg (by omega), if_pos (by omega), if_pos h2]
/-- the reference's way of paying -/
def gp_z (w : Nat → Nat) (t h : Nat) : Nat → Nat := if h - gp_p w t h = 0 then gp_w w t h else gw_rain (gp_w w t h) (gf_g (gw_a (gp_w w t h)) t (2 * (h - gp_p w t h))) 5
theorem gp_S {w : Nat → Nat} (hs : gw_S w) {t h : Nat} (ht : t < 5) : gw_S (gp_w w t h) := by
  intro a b ha hb
  rw [gp_ne (by omega), gp_ne (by omega)]
  exact hs a b ha hb
theorem gp_ref {κ4 : Int32 → Int32 → sg_S → Option (Int32 × sg_S)} {τ : sg_S} {w : Nat → Nat} {u k t h : Nat} (hV : nb_V (τ 1) w) (h1 : 1 ≤ w 1) (hk : k < 8) (ht : t < 5) (hs : gw_S w) (hr : gr_b w) (hh : h < 100000) : ∃ τ2, f_X8_settles_J88 κ4 (nb u) (nb k) (nb t) (nb h) (nb (gp_p w t h)) τ = κ4 (nb (u + if h - gp_p w t h = 0 then 0 else 1)) (nb k) τ2 ∧ nb_V (τ2 1) (gp_z (gm_go w k) t h) ∧ nb_F τ τ2 ∧ τ2 0 15 = (if h - gp_p w t h = 0 then 1 else 0) := by
  obtain ⟨τa, ga, gb, gc⟩ := gm_goes hV hk h1
  have ep : gp_p (gm_go w k) t h = gp_p w t h := by
    unfold gp_p
    rw [gm_lo (by omega) (by omega)]
  have hp := gp_ph w t h
  have hps := gp_ps (gm_go w k) t h
  rw [ep] at hps
  have v1 := nb_Vm gb (k := 10 + 4 * t) (d := gp_p w t h) (by omega) hps
  have v2 := nb_Vp v1 (k := 3) (by decide) (gp_p w t h)
  have v3 := nb_Vp v2 (k := 7) (by decide) 1
  have f3 : nb_F τ (sg_up (sg_up (sg_up τa 1 (10 + 4 * t) (τa 1 (10 + 4 * t) - nb (gp_p w t h))) 1 3 (sg_up τa 1 (10 + 4 * t) (τa 1 (10 + 4 * t) - nb (gp_p w t h)) 1 3 + nb (gp_p w t h))) 1 7 (sg_up (sg_up τa 1 (10 + 4 * t) (τa 1 (10 + 4 * t) - nb (gp_p w t h))) 1 3 (sg_up τa 1 (10 + 4 * t) (τa 1 (10 + 4 * t) - nb (gp_p w t h)) 1 3 + nb (gp_p w t h)) 1 7 + nb 1)) := nb_Ftr (fun p k h1 _ _ => gc p k h1) (nb_Ftr (nb_Fu _ _ _) (nb_Ftr (nb_Fu _ _ _) (nb_Fu _ _ _)))
  unfold f_X8_settles_J88
  rw [ga, nb_bnd, nb_at0, nb_bnd, nb_grd (nb_i79 (by omega)), nb_t79 (by omega), nb_let, nb_let, nb_let]
  generalize hσ : sg_up (sg_up (sg_up τa 1 (10 + 4 * t) (τa 1 (10 + 4 * t) - nb (gp_p w t h))) 1 3 (sg_up τa 1 (10 + 4 * t) (τa 1 (10 + 4 * t) - nb (gp_p w t h)) 1 3 + nb (gp_p w t h))) 1 7 (sg_up (sg_up τa 1 (10 + 4 * t) (τa 1 (10 + 4 * t) - nb (gp_p w t h))) 1 3 (sg_up τa 1 (10 + 4 * t) (τa 1 (10 + 4 * t) - nb (gp_p w t h)) 1 3 + nb (gp_p w t h)) 1 7 + 1) = σ
  have hσ2 : sg_up (sg_up (sg_up τa 1 (10 + 4 * t) (τa 1 (10 + 4 * t) - nb (gp_p w t h))) 1 3 (sg_up τa 1 (10 + 4 * t) (τa 1 (10 + 4 * t) - nb (gp_p w t h)) 1 3 + nb (gp_p w t h))) 1 7 (sg_up (sg_up τa 1 (10 + 4 * t) (τa 1 (10 + 4 * t) - nb (gp_p w t h))) 1 3 (sg_up τa 1 (10 + 4 * t) (τa 1 (10 + 4 * t) - nb (gp_p w t h)) 1 3 + nb (gp_p w t h)) 1 7 + nb 1) = σ := hσ
  rw [hσ2] at v3 f3
  by_cases c : h - gp_p w t h = 0
  · have v4 : nb_V ((sg_up σ 0 15 1) 1) (gw_p (gw_p (gw_m (gm_go w k) (10 + 4 * t) (gp_p w t h)) 3 (gp_p w t h)) 7 1) := fun j hj => by
      rw [nb_up, if_neg (by omega)]
      exact v3 j hj
    have v5 := nb_Vp v4 (k := 8) (by decide) 1
    refine ⟨_, ?_, nb_Vx v5 (fun x hx => ?_), nb_Ftr f3 (nb_Ftr (nb_Fp _ _) (nb_Fu _ _ _)), ?_⟩
    · rw [if_pos c, if_pos (by rw [(by omega : gp_p w t h = h)]), f_X8_settles_J145, nb_grd (by decide), nb_let, nb_upE, if_neg (by decide), nb_let]
      try rfl
    · unfold gp_z
      rw [ep, if_pos c]
      unfold gp_w
      rw [ep, if_pos c]
      unfold gp_5
      rw [ep, c]
      unfold gw_p gw_m
      repeat' split
      all_goals omega
    · rw [if_pos c, nb_up, if_neg (by omega), nb_upE]
  · have v4 : nb_V ((sg_up σ 0 15 0) 1) (gw_p (gw_p (gw_m (gm_go w k) (10 + 4 * t) (gp_p w t h)) 3 (gp_p w t h)) 7 1) := fun j hj => by
      rw [nb_up, if_neg (by omega)]
      exact v3 j hj
    have v5 := nb_Vp v4 (k := 13 + 4 * t) (by omega) (h - gp_p w t h)
    have v6 := nb_Vp v5 (k := 6) (by decide) (2 * (h - gp_p w t h))
    have ew : gp_w (gm_go w k) t h = gp_5 (gm_go w k) t h := by
      unfold gp_w
      rw [ep, if_neg c]
    have v7 := nb_Vx (w2 := gp_w (gm_go w k) t h) v6 (fun x hx => by
      rw [ew]
      unfold gp_5
      rw [ep]
      unfold gw_p gw_m
      repeat' split
      all_goals omega)
    have hsz : gw_S (gp_w (gm_go w k) t h) := gp_S (fun a b ha hb => by
      rw [gm_lo (by omega) (by omega), gm_lo (by omega) (by omega)]
      exact hs a b ha hb) ht
    have hrz : gr_b (gp_w (gm_go w k) t h) := fun q hq => by
      rw [gp_ne (by omega), gm_lo (by omega) (by omega)]
      exact hr q hq
    obtain ⟨τ2, ra, rb, rc⟩ := gr_ref v7 hsz hrz ht (H := 2 * (h - gp_p w t h)) (by omega)
    have e5 : (2 : Int32) * nb (h - gp_p w t h) = nb (2 * (h - gp_p w t h)) := nb_mul 2 _
    refine ⟨τ2, ?_, ?_, nb_Ftr f3 (nb_Ftr (nb_Fp _ _) (nb_Ftr (nb_Fu _ _ _) (nb_Ftr (nb_Fu _ _ _) (nb_Fw rc)))), ?_⟩
    · rw [if_neg c, if_neg (nb_ne (by omega) (by omega) (by omega)), f_X8_settles_J145, nb_grd (by decide), nb_let, nb_upE, if_pos rfl, nb_at3, nb_bnd, nb_grd (nb_i79 (by omega)), nb_t79 (by omega), nb_sub hp, e5, nb_let, nb_let, ra, nb_bnd2, nb_succ]
    · unfold gp_z
      rw [ep, if_neg c]
      exact rb
    · rw [if_neg c]
      rw [rc 0 15 (by decide) (by decide), nb_up, if_neg (by omega), nb_up, if_neg (by omega), nb_upE]
