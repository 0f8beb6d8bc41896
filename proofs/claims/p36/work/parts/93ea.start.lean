/-! THE START: what a fresh ministry answers -/
def w_0 : Nat → Nat := fun k => if 10 ≤ k ∧ k < 30 then (if k % 4 = 2 then 10 else if k % 4 = 0 then 2 else 0) else 0
theorem w_0t : ∀ t, t < 5 → iX3sun t = nb (w_0 (10 + 4 * t)) ∧ iz t = nb (w_0 (11 + 4 * t)) ∧ iX3umb t = nb (w_0 (12 + 4 * t)) ∧ iz t = nb (w_0 (13 + 4 * t)) := by decide +kernel
theorem w_0m : ∀ t, t < 5 → iz t = nb (nb_mask w_0 t) := by decide +kernel
theorem w_0S : ∀ t, t < 5 → ∀ u, u < 5 → w_0 (30 + 5 * t + u) ≤ 1 ∧ w_0 (30 + 5 * t + u) = w_0 (30 + 5 * u + t) := by decide +kernel
theorem w_0b : ∀ t, t < 5 → w_0 (10 + 4 * t) ≤ 60 ∧ w_0 (11 + 4 * t) ≤ 60 ∧ w_0 (12 + 4 * t) ≤ 9 ∧ w_0 (13 + 4 * t) + gc_by w_0 t ≤ 160 := by decide +kernel
theorem w_0d : ∀ t, t < 5 → w_0 (30 + 6 * t) = 0 := by decide +kernel
theorem w_0k : ∀ k, k < 8 → iz k = nb (w_0 (k + 1)) := by decide +kernel
theorem w_0R : nb_R (sg_e1 1 iX7) w_0 := by
  refine ⟨⟨fun p k j h => ?_, fun t ht => w_0m t ht, rfl⟩, rfl, fun c hc => absurd hc (Nat.not_lt_zero c)⟩
  rcases h with ⟨rfl, rfl, rfl⟩ | ⟨rfl, hk, rfl⟩ | ⟨rfl, hk, rfl⟩ | ⟨rfl, hk, rfl⟩ | ⟨rfl, hk, rfl⟩ | ⟨rfl, rfl, rfl⟩ | ⟨rfl, rfl, rfl⟩ | ⟨rfl, h3, h8, rfl⟩
  · rfl
  · exact (w_0t k hk).1
  · exact (w_0t k hk).2.1
  · exact (w_0t k hk).2.2.1
  · exact (w_0t k hk).2.2.2
  · rfl
  · rfl
  · exact w_0k k h8
theorem gj_qb {κ : sg_S} (h : κ 0 = upd iz 0 16) (h1 : κ 1 = iz) : qb_I κ 0 (fun _ => 0) := by
  refine ⟨16, ⟨by omega, by rw [h]; rfl, by rw [h]; rfl, fun i _ => ⟨0, by omega, by rw [h1]; rfl⟩⟩, by omega, by rw [h]; rfl, fun i hi => absurd hi (Nat.not_lt_zero i)⟩
theorem w_0I : gi_I 0 w_0 := by
  refine ⟨⟨Nat.le_refl 0, by unfold ge_E; decide +kernel⟩, ?_⟩
  exact ⟨by decide, by decide, w_0b, fun t u ht hu => w_0S t ht u hu, w_0d, fun c hc => absurd hc (Nat.not_lt_zero c), fun c hc => absurd hc (Nat.not_lt_zero c)⟩
theorem st_A0 : cl_A 0 w_0 0 iX7 := ⟨w_0R, w_0I, ⟨0, by omega, by omega, rfl, rfl, fun i hi => absurd hi (Nat.not_lt_zero i)⟩, ⟨0, fun _ => 0, by omega, gj_qb (κ := sg_e1 177 iX7) rfl rfl⟩, rfl⟩
def st_b (o : Option (Int32 × sg_S)) (f : sg_S → Option (List Int32)) : Option (List Int32) := sg_bnd2 o (fun r σ => sg_bnd (f σ) (fun l => some (r :: l)))
def st_a (o : Option Int32) (f : Option (List Int32)) : Option (List Int32) := sg_bnd o (fun r => sg_bnd f (fun l => some (r :: l)))
theorem st_bE {o : Option (Int32 × sg_S)} {f : sg_S → Option (List Int32)} {x : Int32} {l : List Int32} (h : st_b o f = some (x :: l)) : ∃ σ, o = some (x, σ) ∧ f σ = some l := by
  unfold st_b at h
  cases o with
  | none => cases h
  | some v =>
    obtain ⟨r, σ⟩ := v
    rw [nb_bnd2] at h
    cases e : f σ with
    | none => rw [e] at h; cases h
    | some l2 =>
      rw [e, nb_bnd] at h
      cases h
      exact ⟨σ, rfl, e⟩
theorem st_aE {o : Option Int32} {f : Option (List Int32)} {x : Int32} {l : List Int32} (h : st_a o f = some (x :: l)) : o = some x ∧ f = some l := by
  unfold st_a at h
  cases o with
  | none => cases h
  | some r =>
    rw [nb_bnd] at h
    cases e : f with
    | none => rw [e] at h; cases h
    | some l2 =>
      rw [e, nb_bnd] at h
      cases h
      exact ⟨rfl, rfl⟩
def st_s (σ : sg_S) : Option (List Int32) :=
  st_b (f_X7_treaty 0 1 1 σ) fun σ => st_b (f_X7_treaty 1 2 1 σ) fun σ => st_b (f_X7_treaty 3 4 1 σ) fun σ => st_b (f_X7_credit 0 12 1 σ) fun σ => st_b (f_X7_credit 2 5 3 σ) fun σ => st_b (f_X7_credit 1 20 2 σ) fun σ => st_b (f_X7_buy 0 σ) fun σ => st_b (f_X7_buy 0 σ) fun σ => st_b (f_X7_buy 0 σ) fun σ => st_b (f_X7_rain 3 7 σ) fun σ => st_b (f_X7_month σ) fun σ => some []
def st_i (σ : sg_S) : Option (List Int32) :=
  st_b (f_X7_undo σ) fun σ => st_b (f_X7_restore σ) fun σ => st_a (f_X7_reason 0 0 σ) <| st_a (f_X7_reason 2 0 σ) <| st_a (f_X7_fault σ) <| st_b (f_X7_read σ) fun σ2 => let σ := sg_mg kb_TNLBHX σ σ2; st_a (f_X7_fault σ) <| st_a (f_X7_written 0 σ) <| st_b (f_X7_treaty 0 5 1 σ) fun σ => st_b (f_X7_treaty 2 2 1 σ) fun σ => st_a (f_X7_reason 0 0 σ) <| st_a (f_X7_reason 0 1 σ) <| st_a (f_X7_reason 1 0 σ) <| st_b (f_X7_treaty 0 1 0 σ) fun σ => st_a (f_X7_reason 0 1 σ) <| st_b (f_X7_credit 0 0 1 σ) fun σ => st_b (f_X7_repay 0 σ) fun σ => st_b (f_X7_bail 0 1 σ) fun σ => st_a (f_X7_reason 0 0 σ) <| st_a (f_X7_reason 0 1 σ) <| st_b (f_X7_rain 5 1 σ) fun σ => st_b (f_X7_most 0 7 σ) fun σ2 => let σ := sg_mg kb_TNR σ σ2; st_b (f_X7_would 0 25 0 σ) fun σ2 => let σ := sg_mg kb_TNR σ σ2; st_a (f_X7_account 16 σ) <| st_b (f_X7_isCounted σ) fun σ2 => let σ := sg_mg kb_TN σ σ2; st_s σ
set_option maxRecDepth 100000 in
theorem st_E : st_i iX7 = some [-3, -3, -3, -2, -3, -2, 0, -1, -1, -5, 8, 2, -6, -5, 0, -2, -1, -5, 5, 2, -1, -2, -2, -2, 1, 1, 2, 3, 0, 1, 2, 3, 4, 5, 10, 1] := by decide +kernel
theorem st_un : f_X7_undo iX7 = some (-3, iX7) := by
  unfold f_X7_undo
  rw [if_pos (show iX7 54 0 = 0 from rfl)]
theorem st_re : f_X7_restore iX7 = some (-3, iX7) := by
  unfold f_X7_restore
  rw [if_pos (show iX7 0 4 = 0 from rfl)]
set_option maxRecDepth 100000 in
theorem st_rd {r : Int32} {σ2 : sg_S} (h : f_X7_read iX7 = some (r, σ2)) : cl_A 0 w_0 0 (sg_mg kb_TNLBHX iX7 σ2) := by
  have h3 : (f_X7_read iX7).map (fun x => x.2 161 3) = some 0 := by decide +kernel
  have h0 : (f_X5_isWellFormed (sg_e1 160 iX7)).map (fun x => x.1) = some 0 := by decide +kernel
  rw [h] at h3
  have h3 : σ2 161 3 = 0 := Option.some.inj h3
  have hx : ∀ p k, (1 ≤ p ∧ p < 160) → σ2 p k = iX7 p k := by
    unfold f_X7_read at h
    cases e : f_X5_isWellFormed (sg_e1 160 iX7) with
    | none => rw [e] at h0; cases h0
    | some v =>
      obtain ⟨r3, τ1⟩ := v
      rw [e] at h0 h
      have h0 : r3 = 0 := Option.some.inj h0
      subst h0
      rw [nb_bnd2, nb_let] at h
      cases e5 : f_J4_setLength_d00df 0 (sg_e1 161 (sg_m1 160 17 iX7 τ1)) with
      | none => rw [e5] at h; cases h
      | some τ5 =>
        rw [e5, nb_bnd, nb_let, if_pos rfl, nb_let] at h
        have h := congrArg Prod.snd (Option.some.inj h)
        dsimp only at h
        intro p k hp
        rw [← h]
        show sg_up _ 0 9 _ p k = _
        rw [nb_up, if_neg (by omega), nb_m1, if_neg (by omega), nb_m1, if_neg (by omega)]
  have hy : ∀ p k, (1 ≤ p ∧ p < 160) ∨ 177 ≤ p → sg_mg kb_TNLBHX iX7 σ2 p k = iX7 p k := fun p k hp => by
    rcases hp with hp | hp
    · cases hb : kb_TNLBHX p with
      | true => exact (sl_mgT hb).trans (hx p k hp)
      | false => exact sl_mgF hb
    · refine sl_mgF ?_
      unfold kb_TNLBHX
      rw [sl_blF (show 27 < p by omega), sl_blF (show 176 < p by omega), Bool.and_false]
      rfl
  obtain ⟨a, b, ⟨s, d⟩, ⟨n, f, l1, l2⟩, _⟩ := st_A0
  refine ⟨nb_Rx a b.2.1 (fun _ _ => rfl) (fun p k hp _ _ => (hy (1 + p) k (Or.inl (by omega))).symm), b, ⟨s, cl_hx d (fun p k h1 h2 => hy p k (Or.inl (by omega)))⟩, ⟨n, f, l1, k_qb l2 (fun p k hp => hy (177 + p) k (Or.inr (by omega)))⟩, ?_⟩
  exact (sl_mgT (show kb_TNLBHX 161 = true from rfl)).trans h3
theorem st_ref {m c : Nat} {w : Nat → Nat} {σ σ2 : sg_S} {r r2 : Int32} {σ3 : sg_S} {o : Option (Int32 × sg_S)} (h : cl_T m w c σ r σ2) (e : o = some (r, σ2)) (e2 : o = some (r2, σ3)) (hr : ¬ (0 ≤ r2)) : cl_A m w c σ3 ∧ fr_F fs_ch σ σ3 := by
  cases e.symm.trans e2
  refine ⟨?_, h.1⟩
  rcases h.2 with ⟨n, w2, er, hn, _⟩ | ⟨_, h2, _⟩
  · exact absurd (by rw [er]; exact nb_0le (by omega)) hr
  · exact h2
theorem st_kept {m c : Nat} {w : Nat → Nat} {σ σ2 : sg_S} {r r2 : Int32} {σ3 : sg_S} {o : Option (Int32 × sg_S)} (h : cl_T m w c σ r σ2) (e : o = some (r, σ2)) (e2 : o = some (r2, σ3)) (hr : 0 ≤ r2) : (∃ w2, cl_A (m + 1) w2 (hs_c c) σ3) ∧ fr_F fs_ch σ σ3 := by
  cases e.symm.trans e2
  refine ⟨?_, h.1⟩
  rcases h.2 with ⟨n, w2, er, hn, h2, _⟩ | ⟨er, _⟩
  · exact ⟨w2, h2⟩
  · exact absurd hr (cl_nn er)
