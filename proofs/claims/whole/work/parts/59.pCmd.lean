/-! COMMANDS: each of the eight, in the class and in the reference -/
theorem gq_e1up (o : Nat) (σ : sg_S) (p k : Nat) (v : Int32) : sg_e1 o (sg_up σ (o + p) k v) = sg_up (sg_e1 o σ) p k v := by
  funext q j
  show sg_up σ (o + p) k v (o + q) j = _
  rw [nb_up, nb_up]
  by_cases c : q = p ∧ j = k
  · rw [if_pos c, if_pos ⟨by omega, c.2⟩]
  · rw [if_neg c, if_neg (fun d => c ⟨by omega, d.2⟩)]
    try rfl
/-- reasons alike -/
def gq_W (σ τ : sg_S) : Prop := σ 14 0 = τ 0 2 ∧ σ 14 1 = τ 0 3 ∧ σ 14 2 = τ 0 4 ∧ (τ 0 4 ≠ 0 → σ 14 3 = τ 0 5)
def gq_C (σ σ2 : sg_S) : Prop := ∀ p, p = 0 ∨ 15 ≤ p → σ2 p = σ p
def gq_F (τ τ2 : sg_S) : Prop := ∀ p k, p ≠ 1 → p ≠ 7 → (p = 0 → k = 1 ∨ (5 ≤ k ∧ k ≠ 15)) → τ2 p k = τ p k
def gq_O (m : Nat) (w : Nat → Nat) (σ τ : sg_S) (r : Int32) (σ2 τ2 : sg_S) : Prop := gq_W σ2 τ2 ∧ gq_C σ σ2 ∧ gq_F τ τ2 ∧ ((∃ (n : Nat) (w2 : Nat → Nat), r = nb n ∧ n < 100000 ∧ τ2 0 0 = 0 ∧ nb_R (sg_e1 1 σ2) w2 ∧ nb_V (τ2 1) w2 ∧ gi_I (m + 1) w2) ∨ ((r = -1 ∨ r = -2 ∨ r = -5) ∧ τ2 0 0 = r ∧ nb_R (sg_e1 1 σ2) w ∧ nb_V (τ2 1) w))
def gq_H (m : Nat) (w : Nat → Nat) (σ τ : sg_S) : Prop := nb_R (sg_e1 1 σ) w ∧ nb_V (τ 1) w ∧ gi_I m w ∧ gq_W σ τ ∧ τ 0 0 = 0 ∧ m < 9000 ∧ ∀ k, k < 12 → τ 6 k = sg_sun k
theorem gq_no {m : Nat} {w : Nat → Nat} {σ τ : sg_S} (h : gq_H m w σ τ) {r : Int32} (hr : r = -1 ∨ r = -2) : ∃ τ2, f_X8_fail r τ = some (r, τ2) ∧ gq_O m w σ τ r σ τ2 := by
  obtain ⟨hR, hV, hI, hW, h0, hm, h6⟩ := h
  refine ⟨sg_up τ 0 0 r, rfl, ⟨?_, ?_, ?_, ?_⟩, fun _ _ => rfl, fun p k h1 h7 h0 => ?_, Or.inr ⟨by rcases hr with e | e <;> simp [e], nb_upE _ _ _ _, hR, fun k hk => ?_⟩⟩
  · rw [nb_up, if_neg (by omega)]
    exact hW.1
  · rw [nb_up, if_neg (by omega)]
    exact hW.2.1
  · rw [nb_up, if_neg (by omega)]
    exact hW.2.2.1
  · rw [nb_up, if_neg (by omega), nb_up, if_neg (by omega)]
    exact hW.2.2.2
  · rw [nb_up, if_neg (by omega)]
  · rw [nb_up, if_neg (by omega)]
    exact hV k hk
theorem gq_refuse {m : Nat} {w : Nat → Nat} {σ τ : sg_S} (h : gq_H m w σ τ) (a d : Int32) : ∃ κ τ2, f_X4_keep a d (sg_e1 14 σ) = some (-5, κ) ∧ f_X8_refuses a d τ = some (-5, τ2) ∧ gq_O m w σ τ (-5) (sg_m1 14 1 σ κ) τ2 := by
  obtain ⟨hR, hV, hI, hW, h0, hm, h6⟩ := h
  refine ⟨_, _, rfl, rfl, ⟨?_, ?_, ?_, ?_⟩, fun p hp => ?_, fun p k h1 h7 h0 => ?_, Or.inr ⟨Or.inr (Or.inr rfl), ?_, ?_, fun k hk => ?_⟩⟩
  · rw [nb_m1, if_pos (by omega)]
    rfl
  · rw [nb_m1, if_pos (by omega)]
    rfl
  · rw [nb_m1, if_pos (by omega)]
    rfl
  · intro c
    exact absurd rfl c
  · funext k
    rw [nb_m1, if_neg (by omega)]
  · rw [nb_up, if_neg (by omega), nb_up, if_neg (by omega), nb_up, if_neg (by omega), nb_up, if_neg (by omega)]
  · rw [nb_upE]
  · refine nb_Rx hR hI.2.1 (fun _ _ => rfl) (fun p k h1 _ _ => ?_)
    show σ (1 + p) k = sg_m1 14 1 σ _ (1 + p) k
    rw [nb_m1, if_neg (by omega)]
  · rw [nb_up, if_neg (by omega), nb_up, if_neg (by omega), nb_up, if_neg (by omega), nb_up, if_neg (by omega)]
    exact hV k hk
/-- a change of the realm that both make -/
theorem gq_yes {m : Nat} {w w2 : Nat → Nat} {σ τ σ2 τ2 : sg_S} (h : gq_H m w σ τ) {n : Nat} (hn : n < 100000) (hR : nb_R (sg_e1 1 σ2) w2) (hV : nb_V (τ2 1) w2) (hI : gi_I (m + 1) w2) (hC : ∀ p, p = 0 ∨ 14 ≤ p → σ2 p = σ p) (hF : nb_F τ τ2) : gq_O m w σ τ (nb n) σ2 τ2 := by
  obtain ⟨_, _, _, hW, h0, hm, h6⟩ := h
  refine ⟨⟨?_, ?_, ?_, ?_⟩, fun p hp => hC p (by omega), fun p k h1 h7 h0 => hF p k h1 h7 (by omega), Or.inl ⟨n, w2, rfl, hn, ?_, hR, hV, hI⟩⟩
  · rw [hC 14 (by omega), hF 0 2 (by decide) (by decide) (by omega)]
    exact hW.1
  · rw [hC 14 (by omega), hF 0 3 (by decide) (by decide) (by omega)]
    exact hW.2.1
  · rw [hC 14 (by omega), hF 0 4 (by decide) (by decide) (by omega)]
    exact hW.2.2.1
  · rw [hC 14 (by omega), hF 0 4 (by decide) (by decide) (by omega), hF 0 5 (by decide) (by decide) (by omega)]
    exact hW.2.2.2
  · rw [hF 0 0 (by decide) (by decide) (by omega)]
    exact h0
theorem gq_Cup {σ : sg_S} {p k : Nat} {v : Int32} (hp : 1 ≤ p ∧ p < 14) : ∀ q, q = 0 ∨ 14 ≤ q → sg_up σ p k v q = σ q := by
  intro q hq
  funext j
  rw [nb_up, if_neg (by omega)]
/-- buy -/
theorem gq_buy {m : Nat} {w : Nat → Nat} {σ τ : sg_S} (h : gq_H m w σ τ) (x : Int32) : ∃ r σ2 τ2, f_X7_sell x σ = some (r, σ2) ∧ f_X8_buys x τ = some (r, τ2) ∧ gq_O m w σ τ r σ2 τ2 := by
  have h0 := h
  obtain ⟨hR, hV, hI, hW, hz, hm, h6⟩ := h
  unfold f_X7_sell f_X8_buys
  rcases nb_town x with ⟨t, ht, e, t1, t2⟩ | ⟨t1, t2⟩
  · rw [t1, t2, nb_bnd, nb_bnd, if_neg nb_10, if_neg nb_10]
    subst e
    obtain ⟨j1, j2, j3, j4, j5, j6, j7⟩ := hI.2
    obtain ⟨b1, b2, b3, b4⟩ := j3 t ht
    have s4 : σ 4 t = nb (w (12 + 4 * t)) := nb_g3 hR.1 ht
    have s2 : σ 2 t = nb (w (10 + 4 * t)) := nb_g1 hR.1 ht
    rw [nb_grd (nb_i5 ht), nb_t5 ht, s4, s2, nb_at2, nb_bnd, nb_grd (nb_i79 (by omega)), nb_t79 (by omega), hV (12 + 4 * t) (by omega), nb_at0, nb_bnd, nb_grd (nb_i79 (by omega)), nb_t79 (by omega), hV (10 + 4 * t) (by omega)]
    by_cases c : w (12 + 4 * t) = 9
    · obtain ⟨κ, τ2, a1, a2, a3⟩ := gq_refuse h0 1 9
      refine ⟨-5, _, τ2, ?_, ?_, a3⟩
      · rw [c, if_pos (by decide)]
        show sg_bnd2 (f_X4_keep 1 9 (sg_e1 14 σ)) _ = _
        rw [a1]
        rfl
      · rw [c, if_pos (by decide), a2]
        rfl
    · rw [if_neg (show ¬ (9 : Int32) ≤ nb (w (12 + 4 * t)) from nb_le_f (a := 9) (by omega) (by decide)), if_neg (show ¬ nb (w (12 + 4 * t)) = 9 from nb_ne (b := 9) c (by omega) (by decide))]
      by_cases c2 : w (10 + 4 * t) < 4
      · rw [if_pos (show nb (w (10 + 4 * t)) < (4 : Int32) from nb_lt_t (b := 4) c2 (by decide)), if_pos (show nb (w (10 + 4 * t)) < (4 : Int32) from nb_lt_t (b := 4) c2 (by decide)), nb_bnd, nb_grd (nb_i79 (by omega))]
        obtain ⟨κ, τ2, a1, a2, a3⟩ := gq_refuse h0 4 (nb (w (10 + 4 * t)))
        refine ⟨-5, _, τ2, ?_, ?_, a3⟩
        · rw [a1]
          rfl
        · rw [a2]
          rfl
      · rw [if_neg (show ¬ nb (w (10 + 4 * t)) < (4 : Int32) from nb_lt_f (b := 4) (by omega) (by omega)), if_neg (show ¬ nb (w (10 + 4 * t)) < (4 : Int32) from nb_lt_f (b := 4) (by omega) (by omega)), nb_bnd, nb_grd (nb_i79 (by omega))]
        sorry
  · rw [t1, t2, nb_bnd, nb_bnd, if_pos rfl, if_pos rfl]
    obtain ⟨τ2, a, b⟩ := gq_no h0 (r := -1) (by decide)
    refine ⟨-1, σ, τ2, rfl, ?_, b⟩
    rw [a]
    rfl
