/-! COPIES: of a realm; of the reference's row -/
def hr_k (p k : Nat) : Prop := (p = 0 ∧ k = 0) ∨ (1 ≤ p ∧ p ≤ 4 ∧ k < 5) ∨ (p = 6 ∧ k < 5) ∨ (p = 8 ∧ k = 0) ∨ (9 ≤ p ∧ p ≤ 11 ∧ k < 8) ∨ (p = 12 ∧ k < 8)
def hr_M (ρ ρ2 : sg_S) : Prop := ∀ p k, hr_k p k → ρ2 p k = ρ p k
theorem hr_R {ρ ρ2 : sg_S} {w : Nat → Nat} (h : hr_M ρ ρ2) (hR : nb_R ρ w) (h8 : w 1 ≤ 8) : nb_R ρ2 w := by
  refine ⟨⟨fun p k j hl => ?_, fun t ht => ?_, ?_⟩, ?_, fun c hc => ?_⟩
  · rw [h p k (by unfold hr_k; unfold nb_lk at hl; omega)]
    exact hR.1.1 p k j hl
  · rw [h 6 t (by unfold hr_k; omega)]
    exact hR.1.2.1 t ht
  · rw [h 12 2 (by unfold hr_k; omega)]
    exact hR.1.2.2
  · exact (h 8 0 (by unfold hr_k; omega)).trans hR.2.1
  · obtain ⟨a, b, d⟩ := hR.2.2 c hc
    exact ⟨(h 9 c (by unfold hr_k; omega)).trans a, (h 10 c (by unfold hr_k; omega)).trans b, (h 11 c (by unfold hr_k; omega)).trans d⟩
theorem hr_m2s {o n o2 n2 : Nat} {σ τ : sg_S} {p k : Nat} (h : ∀ q, q < n + n2 → ((q < n ∧ p = o + q) ∨ (n ≤ q ∧ p = o2 + (q - n))) → τ q k = sg_e2 n o o2 σ q k) : sg_m2 o n o2 n2 σ τ p k = σ p k := by
  rw [nb_m2]
  by_cases c : o ≤ p ∧ p < o + n
  · rw [if_pos c, h (p - o) (by omega) (Or.inl ⟨by omega, by omega⟩), nb_e2, if_pos (by omega), (by omega : o + (p - o) = p)]
  · rw [if_neg c]
    by_cases d : o2 ≤ p ∧ p < o2 + n2
    · rw [if_pos d, h (n + (p - o2)) (by omega) (Or.inr ⟨by omega, by omega⟩), nb_e2, if_neg (by omega), (by omega : o2 + (n + (p - o2) - n) = p)]
    · rw [if_neg d]
theorem hr_c6 (κ : sg_S) : ∃ κ2, f_X6_copyFrom κ = some κ2 ∧ (∀ k, k < 5 → κ2 1 k = κ 4 k) ∧ (∀ p k, p ≠ 1 → κ2 p k = κ p k) := by
  unfold f_X6_copyFrom
  rw [nb_let]
  refine ⟨_, rfl, fun k hk => ?_, fun p k hp => ?_⟩
  · rw [nb_ur, if_pos rfl, nb_cpy, if_pos hk]
  · rw [nb_ur, if_neg hp]
theorem hr_c1 (κ : sg_S) : ∃ κ2, f_X1_copyFrom κ = some κ2 ∧ κ2 0 0 = κ 4 0 ∧ (∀ p k, 1 ≤ p → p ≤ 3 → k < 8 → κ2 p k = κ (4 + p) k) ∧ (∀ p k, 4 ≤ p → κ2 p k = κ p k) := by
  unfold f_X1_copyFrom
  rw [nb_let, nb_let, nb_let, nb_let]
  refine ⟨_, rfl, ?_, fun p k h1 h3 hk => ?_, fun p k hp => ?_⟩
  · rw [nb_ur, if_neg (by omega), nb_ur, if_neg (by omega), nb_ur, if_neg (by omega), nb_upE]
  · rcases (by omega : p = 1 ∨ p = 2 ∨ p = 3) with rfl | rfl | rfl
    · rw [nb_ur, if_neg (by omega), nb_ur, if_neg (by omega), nb_ur, if_pos rfl, nb_cpy, if_pos hk]
      try rfl
    · rw [nb_ur, if_neg (by omega), nb_ur, if_pos rfl, nb_cpy, if_pos hk]
      try rfl
    · rw [nb_ur, if_pos rfl, nb_cpy, if_pos hk]
      try rfl
  · rw [nb_ur, if_neg (by omega), nb_ur, if_neg (by omega), nb_ur, if_neg (by omega), nb_up, if_neg (by omega)]
theorem hr_c0 (κ : sg_S) : ∃ κ2, f_X0_copyFrom κ = some κ2 ∧ (∀ k, k < 8 → κ2 0 k = κ 1 k) ∧ (∀ p k, p ≠ 0 → κ2 p k = κ p k) := by
  unfold f_X0_copyFrom
  rw [nb_let, nb_let, nb_let, nb_let, nb_let, nb_let, nb_let, nb_let]
  refine ⟨_, rfl, fun k hk => ?_, fun p k hp => ?_⟩
  · rcases (by omega : k = 0 ∨ k = 1 ∨ k = 2 ∨ k = 3 ∨ k = 4 ∨ k = 5 ∨ k = 6 ∨ k = 7) with rfl | rfl | rfl | rfl | rfl | rfl | rfl | rfl <;> rfl
  · rw [nb_up, if_neg (by omega), nb_up, if_neg (by omega), nb_up, if_neg (by omega), nb_up, if_neg (by omega), nb_up, if_neg (by omega), nb_up, if_neg (by omega), nb_up, if_neg (by omega), nb_up, if_neg (by omega)]
theorem hr_c3 (σ : sg_S) : wk_K (f_X3_copyFrom σ) (fun σ2 => (∀ p k, hr_k p k → σ2 p k = σ (13 + p) k) ∧ (∀ p k, 13 ≤ p → σ2 p k = σ p k)) := by
  unfold f_X3_copyFrom
  refine wk_let (fun σ1 e1 => wk_let (fun σ2 e2 => wk_let (fun σ3 e3 => wk_let (fun σ4 e4 => wk_let (fun σ5 e5 => ?_)))))
  have a1 : σ1 0 0 = σ 13 0 := by rw [e1, nb_upE]
  have b1 : ∀ p k, p ≠ 0 → σ1 p k = σ p k := fun p k hp => by rw [e1, nb_up, if_neg (by omega)]
  have c2 : ∀ k, k < 5 → σ2 1 k = σ 14 k := fun k hk => by rw [e2, nb_ur, if_pos rfl, nb_cpy, if_pos hk, b1 _ _ (by omega)]
  have b2 : ∀ p k, p ≠ 1 → σ2 p k = σ1 p k := fun p k hp => by rw [e2, nb_ur, if_neg hp]
  have c3 : ∀ k, k < 5 → σ3 2 k = σ 15 k := fun k hk => by rw [e3, nb_ur, if_pos rfl, nb_cpy, if_pos hk, b2 _ _ (by omega), b1 _ _ (by omega)]
  have b3 : ∀ p k, p ≠ 2 → σ3 p k = σ2 p k := fun p k hp => by rw [e3, nb_ur, if_neg hp]
  have c4 : ∀ k, k < 5 → σ4 3 k = σ 16 k := fun k hk => by rw [e4, nb_ur, if_pos rfl, nb_cpy, if_pos hk, b3 _ _ (by omega), b2 _ _ (by omega), b1 _ _ (by omega)]
  have b4 : ∀ p k, p ≠ 3 → σ4 p k = σ3 p k := fun p k hp => by rw [e4, nb_ur, if_neg hp]
  have c5 : ∀ k, k < 5 → σ5 4 k = σ 17 k := fun k hk => by rw [e5, nb_ur, if_pos rfl, nb_cpy, if_pos hk, b4 _ _ (by omega), b3 _ _ (by omega), b2 _ _ (by omega), b1 _ _ (by omega)]
  have b5 : ∀ p k, p ≠ 4 → σ5 p k = σ4 p k := fun p k hp => by rw [e5, nb_ur, if_neg hp]
  have f0 : σ5 0 0 = σ 13 0 := by rw [b5 _ _ (by omega), b4 _ _ (by omega), b3 _ _ (by omega), b2 _ _ (by omega), a1]
  have f1 : ∀ k, k < 5 → σ5 1 k = σ 14 k := fun k hk => by rw [b5 _ _ (by omega), b4 _ _ (by omega), b3 _ _ (by omega), c2 k hk]
  have f2 : ∀ k, k < 5 → σ5 2 k = σ 15 k := fun k hk => by rw [b5 _ _ (by omega), b4 _ _ (by omega), c3 k hk]
  have f3 : ∀ k, k < 5 → σ5 3 k = σ 16 k := fun k hk => by rw [b5 _ _ (by omega), c4 k hk]
  have g5 : ∀ p k, 5 ≤ p → σ5 p k = σ p k := fun p k hp => by rw [b5 _ _ (by omega), b4 _ _ (by omega), b3 _ _ (by omega), b2 _ _ (by omega), b1 _ _ (by omega)]
  clear e1 e2 e3 e4 e5 a1 b1 c2 b2 c3 b3 c4 b4 b5
  obtain ⟨τ6, t1, t2, t3⟩ := hr_c6 (sg_e2 3 5 18 σ5)
  refine wk_bnd t1 (wk_let (fun σ8 e8 => ?_))
  have h6 : ∀ k, k < 5 → σ8 6 k = σ 19 k := fun k hk => by
    rw [e8, nb_m2, if_pos (by omega)]
    exact (t2 k hk).trans (g5 19 k (by decide))
  have h6b : ∀ p k, p ≠ 6 → σ8 p k = σ5 p k := fun p k hp => by
    rw [e8]
    exact hr_m2s (fun q h1 h2 => t3 q k (by omega))
  obtain ⟨τ9, u1, u2, u3, u4⟩ := hr_c1 (sg_e2 4 8 21 σ8)
  refine wk_bnd u1 (wk_let (fun σ11 e11 => ?_))
  have h8 : σ11 8 0 = σ 21 0 := by
    rw [e11, nb_m2, if_pos (by omega)]
    exact u2.trans ((h6b 21 0 (by decide)).trans (g5 21 0 (by decide)))
  have h9 : ∀ p k, 9 ≤ p → p ≤ 11 → k < 8 → σ11 p k = σ (13 + p) k := fun p k h1 h2 hk => by
    rw [e11, nb_m2, if_pos (by omega), u3 (p - 8) k (by omega) (by omega) hk, nb_e2, if_neg (by omega), h6b _ _ (by omega), g5 _ _ (by omega), (by omega : 21 + (4 + (p - 8) - 4) = 13 + p)]
  have h8b : ∀ p k, p < 8 ∨ 12 ≤ p → σ11 p k = σ8 p k := fun p k hp => by
    rw [e11]
    exact hr_m2s (fun q h1 h2 => u4 q k (by omega))
  obtain ⟨τ12, v1, v2, v3⟩ := hr_c0 (sg_e2 1 12 25 σ11)
  refine wk_bnd v1 (wk_let (fun σ14 e14 => wk_r ⟨fun p k hk => ?_, fun p k hp => ?_⟩))
  · have x12 : ∀ j, j < 8 → σ14 12 j = σ 25 j := fun j hj => by
      rw [e14, nb_m2, if_pos (by omega)]
      exact (v2 j hj).trans ((h8b 25 j (by decide)).trans ((h6b 25 j (by decide)).trans (g5 25 j (by decide))))
    have xo : ∀ q j, q ≠ 12 → σ14 q j = σ11 q j := fun q j hq => by
      rw [e14]
      exact hr_m2s (fun r h1 h2 => v3 r j (by omega))
    unfold hr_k at hk
    rcases hk with ⟨rfl, rfl⟩ | ⟨h1, h4, hk⟩ | ⟨rfl, hk⟩ | ⟨rfl, rfl⟩ | ⟨h1, h2, hk⟩ | ⟨rfl, hk⟩
    · rw [xo _ _ (by omega), h8b _ _ (by omega), h6b _ _ (by omega), f0]
    · rw [xo _ _ (by omega), h8b _ _ (by omega), h6b _ _ (by omega)]
      rcases (by omega : p = 1 ∨ p = 2 ∨ p = 3 ∨ p = 4) with rfl | rfl | rfl | rfl
      · exact f1 k hk
      · exact f2 k hk
      · exact f3 k hk
      · exact c5 k hk
    · rw [xo _ _ (by omega), h8b _ _ (by omega), h6 k hk]
    · rw [xo _ _ (by omega), h8]
    · rw [xo _ _ (by omega), h9 p k h1 h2 hk]
    · exact x12 k hk
  · rw [e14, hr_m2s (fun r h1 h2 => v3 r k (by omega)), h8b _ _ (by omega), h6b _ _ (by omega), g5 _ _ (by omega)]
/-- a realm at o takes what the realm at o2 holds -/
theorem hr_cp {σ : sg_S} {o o2 : Nat} (hd : o + 13 ≤ o2 ∨ o2 + 13 ≤ o) : ∃ τ1, f_X3_copyFrom (sg_e2 13 o o2 σ) = some τ1 ∧ hr_M (sg_e1 o2 σ) (sg_e1 o (sg_m2 o 13 o2 13 σ τ1)) ∧ ∀ p k, ¬ (o ≤ p ∧ p < o + 13) → sg_m2 o 13 o2 13 σ τ1 p k = σ p k := by
  obtain ⟨τ1, e, a, b⟩ := hr_c3 (sg_e2 13 o o2 σ)
  refine ⟨τ1, e, fun p k hk => ?_, fun p k hp => ?_⟩
  · have hp : p < 13 := by
      unfold hr_k at hk
      omega
    show sg_m2 o 13 o2 13 σ τ1 (o + p) k = σ (o2 + p) k
    rw [nb_m2, if_pos (by omega), (by omega : o + p - o = p), a p k hk, nb_e2, if_neg (by omega), (by omega : o2 + (13 + p - 13) = o2 + p)]
  · exact hr_m2s (fun q h1 h2 => b q k (by omega))
/-! the reference's rows -/
theorem hr_laysL {τ : sg_S} : ∀ (m j f : Nat) (τ1 : sg_S), j + m = 79 → m < f → (∀ p k, τ1 p k = if p = 0 ∧ k < j then τ 1 k else τ p k) → ∃ τ2, f_X8_lays_L2 f (nb j) τ1 = some τ2 ∧ (∀ p k, τ2 p k = if p = 0 ∧ k < 79 then τ 1 k else τ p k) := by
  intro m
  induction m with
  | zero =>
    intro j f τ1 h1 h2 h3
    obtain ⟨f, rfl⟩ : ∃ k, f = k + 1 := ⟨f - 1, by omega⟩
    have ej : j = 79 := by omega
    subst ej
    rw [f_X8_lays_L2, if_neg (show ¬ nb 79 < (79 : Int32) by decide)]
    exact ⟨τ1, rfl, h3⟩
  | succ m ih =>
    intro j f τ1 h1 h2 h3
    obtain ⟨f, rfl⟩ : ∃ k, f = k + 1 := ⟨f - 1, by omega⟩
    rw [f_X8_lays_L2, if_pos (show nb j < (79 : Int32) from nb_lt_t (b := 79) (by omega) (by decide)), nb_grd (nb_i79 (by omega)), nb_t79 (by omega), nb_let, nb_succ]
    refine ih (j + 1) f _ (by omega) (by omega) (fun p k => ?_)
    rw [nb_up]
    by_cases c : p = 0 ∧ k = j
    · rw [if_pos c, if_pos (by omega), h3, if_neg (by omega), c.2]
    · rw [if_neg c, h3]
      by_cases d : p = 0 ∧ k < j
      · rw [if_pos d, if_pos (by omega)]
      · rw [if_neg d, if_neg (by omega)]
theorem hr_lays (τ : sg_S) : ∃ τ2, f_X8_lays τ = some τ2 ∧ (∀ p k, τ2 p k = if p = 0 ∧ k < 79 then τ 1 k else τ p k) :=
  hr_laysL 79 0 1000 τ (by decide) (by decide) (fun p k => by rw [if_neg (by omega)])
/-- the row at a takes what the row at b holds -/
theorem hr_ly {τ : sg_S} {a b : Nat} (hab : a ≠ b) : ∃ τ1, f_X8_lays (sg_e2 1 a b τ) = some τ1 ∧ (∀ p k, sg_m2 a 1 b 1 τ τ1 p k = if p = a ∧ k < 79 then τ b k else τ p k) := by
  obtain ⟨τ1, e, h⟩ := hr_lays (sg_e2 1 a b τ)
  refine ⟨τ1, e, fun p k => ?_⟩
  by_cases c : p = a
  · subst c
    rw [nb_m2, if_pos (by omega), h, Nat.sub_self]
    by_cases d : k < 79
    · rw [if_pos ⟨rfl, d⟩, if_pos ⟨rfl, d⟩, nb_e2, if_neg (by omega)]
      try rfl
    · rw [if_neg (fun q => d q.2), if_neg (fun q => d q.2), nb_e2, if_pos (by omega)]
      try rfl
  · rw [if_neg (fun q => c q.1)]
    exact hr_m2s (fun q h1 h2 => by rw [h, if_neg (by omega)])
