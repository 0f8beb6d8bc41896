/-! PURE: the invariant at the start -/
def w_0 : Nat → Nat := fun k => if 10 ≤ k ∧ k < 30 then (if k % 4 = 2 then 10 else if k % 4 = 0 then 2 else 0) else 0
theorem w_0V : ∀ k, k < 79 → iX8 1 k = nb (w_0 k) := by decide +kernel
theorem w_0t : ∀ t, t < 5 → iX3sun t = nb (w_0 (10 + 4 * t)) ∧ iz t = nb (w_0 (11 + 4 * t)) ∧ iX3umb t = nb (w_0 (12 + 4 * t)) ∧ iz t = nb (w_0 (13 + 4 * t)) := by decide +kernel
theorem w_0m : ∀ t, t < 5 → iz t = nb (nb_mask w_0 t) := by decide +kernel
theorem w_0S : ∀ t, t < 5 → ∀ u, u < 5 → w_0 (30 + 5 * t + u) ≤ 1 ∧ w_0 (30 + 5 * t + u) = w_0 (30 + 5 * u + t) := by decide +kernel
theorem w_0b : ∀ t, t < 5 → w_0 (10 + 4 * t) ≤ 60 ∧ w_0 (11 + 4 * t) ≤ 60 ∧ w_0 (12 + 4 * t) ≤ 9 ∧ w_0 (13 + 4 * t) + gc_by w_0 t ≤ 160 := by decide +kernel
theorem w_0d : ∀ t, t < 5 → w_0 (30 + 6 * t) = 0 := by decide +kernel
theorem w_0s : ∀ k, k < 12 → iX8 6 k = sg_sun k := by decide +kernel
theorem w_0l : ∀ k, k < 43 → iX8 11 k = nb (pr_l k) := by decide +kernel
theorem w_0a : ∀ k, k < 9 → iX8 12 k = nb (pr_a k) := by decide +kernel
theorem w_0k : ∀ k, k < 8 → iz k = nb (w_0 (k + 1)) := by decide +kernel
theorem w_0R : nb_R (sg_e1 1 iX7) w_0 := by
  refine ⟨⟨fun p k j h => ?_, fun t ht => w_0m t ht, rfl⟩, rfl, fun c hc => absurd hc (Nat.not_lt_zero c)⟩
  rcases h with ⟨rfl, rfl, rfl⟩ | ⟨rfl, hk, rfl⟩ | ⟨rfl, hk, rfl⟩ | ⟨rfl, hk, rfl⟩ | ⟨rfl, hk, rfl⟩ | ⟨rfl, rfl, rfl⟩ | ⟨rfl, rfl, rfl⟩ | ⟨rfl, h3, h8, rfl⟩
  · rfl
  · exact (w_0t k hk).1
  · exact (w_0t k hk).2.1
  · exact (w_0t k hk).2.2.1
  · exact (w_0t k hk).2.2.2
  · rfl
  · rfl
  · exact w_0k k h8
theorem gj_qb {κ : sg_S} (h : κ 0 = upd iz 0 16) (h1 : κ 1 = iz) : qb_I κ 0 (fun _ => 0) := by
  refine ⟨16, ⟨by omega, by rw [h]; rfl, by rw [h]; rfl, fun i _ => ⟨0, by omega, by rw [h1]; rfl⟩⟩, by omega, by rw [h]; rfl, fun i hi => absurd hi (Nat.not_lt_zero i)⟩
theorem gj_start : gx_G 0 iX7 iX8 := by
  refine ⟨⟨⟨w_0, w_0R, w_0V, Nat.le_refl 0, ?_⟩, ⟨rfl, rfl, rfl, fun h => absurd rfl h⟩, w_0s, ?_, Or.inl ⟨rfl, rfl⟩, ?_⟩, ?_, ?_, w_0l, w_0a⟩
  · exact ⟨by decide, by decide, w_0b, fun t u ht hu => w_0S t ht u hu, w_0d, fun c hc => absurd hc (Nat.not_lt_zero c), fun c hc => absurd hc (Nat.not_lt_zero c)⟩
  · exact ⟨0, 0, by omega, by omega, rfl, rfl, rfl, fun i hi => absurd hi (Nat.not_lt_zero i)⟩
  · decide
  · exact ⟨0, fun _ => 0, by omega, gj_qb (κ := sg_e1 161 iX7) rfl rfl, rfl, fun k hk => absurd hk (Nat.not_lt_zero k), fun k hk => absurd hk (Nat.not_lt_zero k)⟩
  · exact ⟨0, fun _ => 0, by omega, gj_qb (κ := sg_e1 177 iX7) rfl rfl, rfl, fun k hk => absurd hk (Nat.not_lt_zero k)⟩
