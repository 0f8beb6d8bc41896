/-! GRAPH: which towns lie how many treaties away; the class's sets of bits, its halves in rounds, the reference's levels -/
def gf_any (p : Nat → Bool) : Bool := p 0 || p 1 || p 2 || p 3 || p 4
theorem gf_anyI {p : Nat → Bool} {u : Nat} (hu : u < 5) (h : p u = true) : gf_any p = true := by
  unfold gf_any
  rcases (by omega : u = 0 ∨ u = 1 ∨ u = 2 ∨ u = 3 ∨ u = 4) with rfl | rfl | rfl | rfl | rfl <;> simp [h]
theorem gf_anyE {p : Nat → Bool} (h : gf_any p = true) : ∃ u, u < 5 ∧ p u = true := by
  unfold gf_any at h
  simp only [Bool.or_eq_true] at h
  rcases h with (((h | h) | h) | h) | h
  · exact ⟨0, by decide, h⟩
  · exact ⟨1, by decide, h⟩
  · exact ⟨2, by decide, h⟩
  · exact ⟨3, by decide, h⟩
  · exact ⟨4, by decide, h⟩
def gf_r (a : Nat → Nat → Bool) (f : Nat) : Nat → Nat → Bool
  | 0, t => Nat.beq t f
  | k + 1, t => gf_r a f k t || gf_any (fun u => gf_r a f k u && a u t)
def gf_d (a : Nat → Nat → Bool) (f t : Nat) : Nat := cond (gf_r a f 0 t) 0 (cond (gf_r a f 1 t) 1 (cond (gf_r a f 2 t) 2 (cond (gf_r a f 3 t) 3 (cond (gf_r a f 4 t) 4 9))))
theorem gf_mono1 {a : Nat → Nat → Bool} {f k t : Nat} (h : gf_r a f k t = true) : gf_r a f (k + 1) t = true := by
  simp only [gf_r, h, Bool.true_or]
theorem gf_mono {a : Nat → Nat → Bool} {f t k j : Nat} (hk : k ≤ j) (h : gf_r a f k t = true) : gf_r a f j t = true := by
  induction j with
  | zero =>
    have : k = 0 := by omega
    subst this
    exact h
  | succ j ih =>
    by_cases e : k = j + 1
    · subst e
      exact h
    · exact gf_mono1 (ih (by omega))
theorem gf_step {a : Nat → Nat → Bool} {f k u t : Nat} (hu : u < 5) (h : gf_r a f k u = true) (e : a u t = true) : gf_r a f (k + 1) t = true := by
  have q : gf_any (fun u => gf_r a f k u && a u t) = true := gf_anyI (u := u) hu (by simp [h, e])
  simp only [gf_r, q, Bool.or_true]
theorem gf_back {a : Nat → Nat → Bool} {f k t : Nat} (h : gf_r a f (k + 1) t = true) (hn : gf_r a f k t = false) : ∃ u, u < 5 ∧ gf_r a f k u = true ∧ a u t = true := by
  rw [gf_r, hn, Bool.false_or] at h
  obtain ⟨u, hu, h2⟩ := gf_anyE h
  simp only [Bool.and_eq_true] at h2
  exact ⟨u, hu, h2.1, h2.2⟩
theorem gf_dle {a : Nat → Nat → Bool} {f t k : Nat} (hk : k ≤ 4) : gf_d a f t ≤ k ↔ gf_r a f k t = true := by
  constructor
  · intro h
    unfold gf_d at h
    cases h0 : gf_r a f 0 t with
    | true => exact gf_mono (Nat.zero_le k) h0
    | false =>
      rw [h0] at h
      cases h1 : gf_r a f 1 t with
      | true =>
        rw [h1] at h
        exact gf_mono h h1
      | false =>
        rw [h1] at h
        cases h2 : gf_r a f 2 t with
        | true =>
          rw [h2] at h
          exact gf_mono h h2
        | false =>
          rw [h2] at h
          cases h3 : gf_r a f 3 t with
          | true =>
            rw [h3] at h
            exact gf_mono h h3
          | false =>
            rw [h3] at h
            cases h4 : gf_r a f 4 t with
            | true =>
              rw [h4] at h
              exact gf_mono h h4
            | false =>
              rw [h4] at h
              have : 9 ≤ k := h
              omega
  · intro h
    unfold gf_d
    cases h0 : gf_r a f 0 t with
    | true => exact Nat.zero_le k
    | false =>
      cases h1 : gf_r a f 1 t with
      | true =>
        show 1 ≤ k
        rcases Nat.eq_zero_or_pos k with e | e
        · subst e
          rw [h0] at h
          cases h
        · exact e
      | false =>
        cases h2 : gf_r a f 2 t with
        | true =>
          show 2 ≤ k
          rcases (by omega : k ≤ 1 ∨ 2 ≤ k) with e | e
          · rw [gf_mono e h] at h1
            cases h1
          · exact e
        | false =>
          cases h3 : gf_r a f 3 t with
          | true =>
            show 3 ≤ k
            rcases (by omega : k ≤ 2 ∨ 3 ≤ k) with e | e
            · rw [gf_mono e h] at h2
              cases h2
            · exact e
          | false =>
            have e4 : k = 4 := by
              rcases (by omega : k ≤ 3 ∨ k = 4) with e | e
              · rw [gf_mono e h] at h3
                cases h3
              · exact e
            subst e4
            rw [h]
            exact Nat.le_refl 4
theorem gf_d49 (a : Nat → Nat → Bool) (f t : Nat) : gf_d a f t ≤ 4 ∨ gf_d a f t = 9 := by
  unfold gf_d
  cases gf_r a f 0 t <;> cases gf_r a f 1 t <;> cases gf_r a f 2 t <;> cases gf_r a f 3 t <;> cases gf_r a f 4 t <;> simp
/-- five towns: four steps lead everywhere that steps lead -/
def gf_c (p : Nat → Bool) : Nat := (p 0).toNat + (p 1).toNat + (p 2).toNat + (p 3).toNat + (p 4).toNat
theorem gf_toNat {a b : Bool} (h : a = true → b = true) : a.toNat ≤ b.toNat := by
  cases a <;> cases b <;> simp_all
theorem gf_toNatE {a b : Bool} (h : a.toNat = b.toNat) : a = b := by
  cases a <;> cases b <;> simp_all
theorem gf_grow {a : Nat → Nat → Bool} {f k : Nat} (h : ¬ ∀ t, t < 5 → gf_r a f k t = gf_r a f (k + 1) t) : gf_c (gf_r a f k) + 1 ≤ gf_c (gf_r a f (k + 1)) := by
  have m : ∀ t, (gf_r a f k t).toNat ≤ (gf_r a f (k + 1) t).toNat := fun t => gf_toNat gf_mono1
  have m0 := m 0
  have m1 := m 1
  have m2 := m 2
  have m3 := m 3
  have m4 := m 4
  rcases Nat.lt_or_ge (gf_c (gf_r a f k)) (gf_c (gf_r a f (k + 1))) with q | q
  · exact q
  · exfalso
    unfold gf_c at q
    apply h
    intro t ht
    apply gf_toNatE
    rcases (by omega : t = 0 ∨ t = 1 ∨ t = 2 ∨ t = 3 ∨ t = 4) with rfl | rfl | rfl | rfl | rfl <;> omega
theorem gf_stab {a : Nat → Nat → Bool} {f k : Nat} (h : ∀ t, t < 5 → gf_r a f k t = gf_r a f (k + 1) t) : ∀ t, t < 5 → gf_r a f (k + 1) t = gf_r a f (k + 2) t := by
  intro t ht
  show (gf_r a f k t || gf_any (fun u => gf_r a f k u && a u t)) = (gf_r a f (k + 1) t || gf_any (fun u => gf_r a f (k + 1) u && a u t))
  simp only [gf_any, h t ht, h 0 (by decide), h 1 (by decide), h 2 (by decide), h 3 (by decide), h 4 (by decide)]
theorem gf_stabs {a : Nat → Nat → Bool} {f k : Nat} (h : ∀ t, t < 5 → gf_r a f k t = gf_r a f (k + 1) t) (j : Nat) : ∀ t, t < 5 → gf_r a f (k + j) t = gf_r a f (k + j + 1) t := by
  induction j with
  | zero => exact h
  | succ j ih => exact gf_stab ih
theorem gf_all {a : Nat → Nat → Bool} {f : Nat} (hf : f < 5) : ∀ t, t < 5 → gf_r a f 4 t = gf_r a f 5 t := by
  by_cases h0 : ∀ t, t < 5 → gf_r a f 0 t = gf_r a f 1 t
  · exact gf_stabs h0 4
  by_cases h1 : ∀ t, t < 5 → gf_r a f 1 t = gf_r a f 2 t
  · exact gf_stabs h1 3
  by_cases h2 : ∀ t, t < 5 → gf_r a f 2 t = gf_r a f 3 t
  · exact gf_stabs h2 2
  by_cases h3 : ∀ t, t < 5 → gf_r a f 3 t = gf_r a f 4 t
  · exact gf_stabs h3 1
  by_cases h4 : ∀ t, t < 5 → gf_r a f 4 t = gf_r a f 5 t
  · exact h4
  exfalso
  have g0 : gf_c (gf_r a f 0) + 1 ≤ gf_c (gf_r a f 1) := gf_grow h0
  have g1 : gf_c (gf_r a f 1) + 1 ≤ gf_c (gf_r a f 2) := gf_grow h1
  have g2 : gf_c (gf_r a f 2) + 1 ≤ gf_c (gf_r a f 3) := gf_grow h2
  have g3 : gf_c (gf_r a f 3) + 1 ≤ gf_c (gf_r a f 4) := gf_grow h3
  have g4 : gf_c (gf_r a f 4) + 1 ≤ gf_c (gf_r a f 5) := gf_grow h4
  have b : ∀ t, (gf_r a f 5 t).toNat ≤ 1 := fun t => by cases gf_r a f 5 t <;> simp
  have b0 := b 0
  have b1 := b 1
  have b2 := b 2
  have b3 := b 3
  have b4 := b 4
  have c5 : gf_c (gf_r a f 5) ≤ 5 := by
    unfold gf_c
    omega
  have c0 : 1 ≤ gf_c (gf_r a f 0) := by
    rcases (by omega : f = 0 ∨ f = 1 ∨ f = 2 ∨ f = 3 ∨ f = 4) with rfl | rfl | rfl | rfl | rfl <;> exact Nat.le_refl 1
  omega
theorem gf_shut {a : Nat → Nat → Bool} {f u t : Nat} (hf : f < 5) (hu : u < 5) (ht : t < 5) (h : gf_r a f 4 u = true) (e : a u t = true) : gf_r a f 4 t = true := by
  rw [gf_all hf t ht]
  exact gf_step hu h e
/-- levels: who is found at level k + 1 -/
theorem gf_lvl {a : Nat → Nat → Bool} {f t k : Nat} (hk : k < 4) (hn : ¬ gf_d a f t ≤ k) : gf_d a f t ≤ k + 1 ↔ gf_any (fun u => decide (gf_d a f u = k) && a u t) = true := by
  have hr : gf_r a f k t = false := by
    cases h : gf_r a f k t with
    | false => rfl
    | true => exact absurd ((gf_dle (by omega)).mpr h) hn
  rw [gf_dle (by omega)]
  constructor
  · intro h
    obtain ⟨u, hu, h1, h2⟩ := gf_back h hr
    refine gf_anyI (u := u) hu ?_
    have hd : gf_d a f u ≤ k := (gf_dle (by omega)).mpr h1
    have he : gf_d a f u = k := by
      rcases Nat.lt_or_ge (gf_d a f u) k with q | q
      · exfalso
        have q2 : gf_r a f (k - 1) u = true := (gf_dle (by omega)).mp (by omega)
        have q3 := gf_step hu q2 h2
        rw [(by omega : k - 1 + 1 = k), hr] at q3
        cases q3
      · omega
    simp [he, h2]
  · intro h
    obtain ⟨u, hu, h1⟩ := gf_anyE h
    simp only [Bool.and_eq_true, decide_eq_true_eq] at h1
    exact gf_step hu ((gf_dle (by omega)).mp (by omega)) h1.2
/-- sets of towns as bits -/
def gf_m (p : Nat → Bool) : Nat := (p 0).toNat + 2 * (p 1).toNat + 4 * (p 2).toNat + 8 * (p 3).toNat + 16 * (p 4).toNat
theorem gf_bits : ∀ b0 b1 b2 b3 b4 : Bool, ((nb (b0.toNat + 2 * b1.toNat + 4 * b2.toNat + 8 * b3.toNat + 16 * b4.toNat) >>> (nb 0 &&& 31)) &&& 1 = 1 ↔ b0 = true) ∧ ((nb (b0.toNat + 2 * b1.toNat + 4 * b2.toNat + 8 * b3.toNat + 16 * b4.toNat) >>> (nb 1 &&& 31)) &&& 1 = 1 ↔ b1 = true) ∧ ((nb (b0.toNat + 2 * b1.toNat + 4 * b2.toNat + 8 * b3.toNat + 16 * b4.toNat) >>> (nb 2 &&& 31)) &&& 1 = 1 ↔ b2 = true) ∧ ((nb (b0.toNat + 2 * b1.toNat + 4 * b2.toNat + 8 * b3.toNat + 16 * b4.toNat) >>> (nb 3 &&& 31)) &&& 1 = 1 ↔ b3 = true) ∧ ((nb (b0.toNat + 2 * b1.toNat + 4 * b2.toNat + 8 * b3.toNat + 16 * b4.toNat) >>> (nb 4 &&& 31)) &&& 1 = 1 ↔ b4 = true) := by decide +kernel
theorem gf_bit {p : Nat → Bool} {u : Nat} (hu : u < 5) : (nb (gf_m p) >>> (nb u &&& 31)) &&& 1 = 1 ↔ p u = true := by
  have h := gf_bits (p 0) (p 1) (p 2) (p 3) (p 4)
  rcases (by omega : u = 0 ∨ u = 1 ∨ u = 2 ∨ u = 3 ∨ u = 4) with rfl | rfl | rfl | rfl | rfl
  · exact h.1
  · exact h.2.1
  · exact h.2.2.1
  · exact h.2.2.2.1
  · exact h.2.2.2.2
theorem gf_ors : ∀ b0 b1 b2 b3 b4 c0 c1 c2 c3 c4 : Bool, nb (b0.toNat + 2 * b1.toNat + 4 * b2.toNat + 8 * b3.toNat + 16 * b4.toNat) ||| nb (c0.toNat + 2 * c1.toNat + 4 * c2.toNat + 8 * c3.toNat + 16 * c4.toNat) = nb ((b0 || c0).toNat + 2 * (b1 || c1).toNat + 4 * (b2 || c2).toNat + 8 * (b3 || c3).toNat + 16 * (b4 || c4).toNat) := by decide +kernel
theorem gf_or (p q : Nat → Bool) : nb (gf_m p) ||| nb (gf_m q) = nb (gf_m (fun v => p v || q v)) := gf_ors (p 0) (p 1) (p 2) (p 3) (p 4) (q 0) (q 1) (q 2) (q 3) (q 4)
theorem gf_one {f : Nat} (h : f < 5) : (1 : Int32) <<< (nb f &&& 31) = nb (gf_m (fun v => Nat.beq v f)) := by
  rcases (by omega : f = 0 ∨ f = 1 ∨ f = 2 ∨ f = 3 ∨ f = 4) with rfl | rfl | rfl | rfl | rfl <;> decide +kernel
theorem gf_cnts : ∀ b0 b1 b2 b3 b4 : Bool, f_J6_bitCount_0f7a4 (nb (b0.toNat + 2 * b1.toNat + 4 * b2.toNat + 8 * b3.toNat + 16 * b4.toNat)) = some (nb (b0.toNat + b1.toNat + b2.toNat + b3.toNat + b4.toNat)) := by decide +kernel
theorem gf_cnt (p : Nat → Bool) : f_J6_bitCount_0f7a4 (nb (gf_m p)) = some (nb (gf_c p)) := gf_cnts (p 0) (p 1) (p 2) (p 3) (p 4)
theorem gf_mc {p q : Nat → Bool} (h : ∀ t, t < 5 → p t = q t) : gf_m p = gf_m q := by
  unfold gf_m
  rw [h 0 (by decide), h 1 (by decide), h 2 (by decide), h 3 (by decide), h 4 (by decide)]
/-- the class's row of treaties -/
def gf_T (σ : sg_S) (a : Nat → Nat → Bool) : Prop := ∀ t, t < 5 → σ 1 t = nb (gf_m (a t))
theorem gf_wp1 {σ : sg_S} {a : Nat → Nat → Bool} (hT : gf_T σ a) (s q : Nat → Bool) (i n : Nat) (hi : i < 5) : f_X6_withPartners_L4 (nb (gf_m s)) σ (n + 1) (nb (gf_m q)) (nb i) = f_X6_withPartners_L4 (nb (gf_m s)) σ n (nb (gf_m (fun v => q v || (s i && a i v)))) (nb (i + 1)) := by
  rw [f_X6_withPartners_L4, if_pos (nb_lt5 hi), nb_succ]
  cases h : s i with
  | true =>
    rw [if_pos ((gf_bit hi).mpr h), nb_grd (nb_i5 hi), nb_let, nb_t5 hi, hT i hi, gf_or]
    simp only [Bool.true_and]
  | false =>
    rw [if_neg (fun c => by rw [(gf_bit hi).mp c] at h; cases h)]
    simp only [Bool.false_and, Bool.or_false]
theorem gf_wp {σ : sg_S} {a : Nat → Nat → Bool} (hT : gf_T σ a) (s : Nat → Bool) : f_X6_withPartners (nb (gf_m s)) σ = some (nb (gf_m (fun v => s v || gf_any (fun u => s u && a u v)))) := by
  have h0 := gf_wp1 hT s s 0 999 (by decide)
  have h1 := gf_wp1 hT s (fun v => s v || (s 0 && a 0 v)) 1 998 (by decide)
  have h2 := gf_wp1 hT s (fun v => (s v || (s 0 && a 0 v)) || (s 1 && a 1 v)) 2 997 (by decide)
  have h3 := gf_wp1 hT s (fun v => ((s v || (s 0 && a 0 v)) || (s 1 && a 1 v)) || (s 2 && a 2 v)) 3 996 (by decide)
  have h4 := gf_wp1 hT s (fun v => (((s v || (s 0 && a 0 v)) || (s 1 && a 1 v)) || (s 2 && a 2 v)) || (s 3 && a 3 v)) 4 995 (by decide)
  have h5 : f_X6_withPartners_L4 (nb (gf_m s)) σ 995 (nb (gf_m (fun v => ((((s v || (s 0 && a 0 v)) || (s 1 && a 1 v)) || (s 2 && a 2 v)) || (s 3 && a 3 v)) || (s 4 && a 4 v)))) (nb 5) = some (nb (gf_m (fun v => ((((s v || (s 0 && a 0 v)) || (s 1 && a 1 v)) || (s 2 && a 2 v)) || (s 3 && a 3 v)) || (s 4 && a 4 v)))) := by
    rw [f_X6_withPartners_L4, if_neg nb_nlt5]
  have e : (fun v => s v || gf_any (fun u => s u && a u v)) = (fun v => ((((s v || (s 0 && a 0 v)) || (s 1 && a 1 v)) || (s 2 && a 2 v)) || (s 3 && a 3 v)) || (s 4 && a 4 v)) := by
    funext v
    simp only [gf_any, Bool.or_assoc]
  rw [e]
  exact h0.trans (h1.trans (h2.trans (h3.trans (h4.trans h5))))
theorem gf_wpr {σ : sg_S} {a : Nat → Nat → Bool} (hT : gf_T σ a) (f k : Nat) : f_X6_withPartners (nb (gf_m (gf_r a f k))) σ = some (nb (gf_m (gf_r a f (k + 1)))) := by
  rw [gf_wp hT]
  try rfl
theorem gf_led {σ : sg_S} {a : Nat → Nat → Bool} (hT : gf_T σ a) {f : Nat} (hf : f < 5) : f_X6_ledToFrom (nb f) σ = some (nb (gf_c (gf_r a f 4)) - 1) := by
  have st : ∀ k n, k < 4 → f_X6_ledToFrom_L6 (nb f) σ (n + 1) (nb (gf_m (gf_r a f k))) (nb (k + 1)) = f_X6_ledToFrom_L6 (nb f) σ n (nb (gf_m (gf_r a f (k + 1)))) (nb (k + 1 + 1)) := by
    intro k n hk
    rw [f_X6_ledToFrom_L6, if_pos (nb_lt5 (by omega)), gf_wpr hT, nb_bnd, nb_succ]
  have en : f_X6_ledToFrom_L6 (nb f) σ 996 (nb (gf_m (gf_r a f 4))) (nb 5) = some (nb (gf_c (gf_r a f 4)) - 1) := by
    rw [f_X6_ledToFrom_L6, if_neg nb_nlt5, gf_cnt, nb_bnd]
  unfold f_X6_ledToFrom
  rw [gf_one hf, nb_let]
  exact (st 0 999 (by decide)).trans ((st 1 998 (by decide)).trans ((st 2 997 (by decide)).trans ((st 3 996 (by decide)).trans en)))
def gf_far (a : Nat → Nat → Bool) (f o : Nat) : Int32 := if gf_d a f o ≤ 4 then nb (gf_d a f o) else -6
theorem gf_steps {σ : sg_S} {a : Nat → Nat → Bool} (hT : gf_T σ a) {f o : Nat} (hf : f < 5) (ho : o < 5) : f_X6_stepsBetween (nb f) (nb o) σ = some (gf_far a f o) := by
  have st : ∀ k n, k < 5 → f_X6_stepsBetween_L7 (nb f) (nb o) σ (n + 1) (nb (gf_m (gf_r a f k))) (nb k) = cond (gf_r a f k o) (some (nb k)) (f_X6_stepsBetween_L7 (nb f) (nb o) σ n (nb (gf_m (gf_r a f (k + 1)))) (nb (k + 1))) := by
    intro k n hk
    rw [f_X6_stepsBetween_L7, if_pos (nb_lt5 hk), nb_succ]
    cases h : gf_r a f k o with
    | true => rw [if_pos ((gf_bit ho).mpr h)]; try rfl
    | false =>
      rw [if_neg (fun c => by rw [(gf_bit ho).mp c] at h; cases h), gf_wpr hT, nb_bnd]
      try rfl
  have en : f_X6_stepsBetween_L7 (nb f) (nb o) σ 995 (nb (gf_m (gf_r a f 5))) (nb 5) = some (-6) := by
    rw [f_X6_stepsBetween_L7, if_neg nb_nlt5]
  unfold f_X6_stepsBetween
  rw [gf_one hf, nb_let]
  refine (st 0 999 (by decide)).trans ?_
  unfold gf_far gf_d
  cases gf_r a f 0 o with
  | true => rfl
  | false =>
    refine (st 1 998 (by decide)).trans ?_
    cases gf_r a f 1 o with
    | true => rfl
    | false =>
      refine (st 2 997 (by decide)).trans ?_
      cases gf_r a f 2 o with
      | true => rfl
      | false =>
        refine (st 3 996 (by decide)).trans ?_
        cases gf_r a f 3 o with
        | true => rfl
        | false =>
          refine (st 4 995 (by decide)).trans ?_
          cases gf_r a f 4 o with
          | true => rfl
          | false => exact en

/-- five places of a row that stands at p -/
def gf_S (σ : sg_S) (p : Nat) (g : Nat → Int32) : sg_S := sg_ur σ p (fun i => if i < 5 then g i else σ p i)
theorem gf_Sat {σ : sg_S} {p : Nat} {g : Nat → Int32} {i : Nat} (hi : i < 5) : gf_S σ p g p i = g i := by
  unfold gf_S
  rw [nb_ur, if_pos rfl, if_pos hi]
theorem gf_Sne {σ : sg_S} {p q : Nat} {g : Nat → Int32} (h : q ≠ p) (i : Nat) : gf_S σ p g q i = σ q i := by
  unfold gf_S
  rw [nb_ur, if_neg h]
theorem gf_Sx {σ : sg_S} {p : Nat} {g g2 : Nat → Int32} (h : ∀ i, i < 5 → g i = g2 i) : gf_S σ p g = gf_S σ p g2 := by
  funext q j
  unfold gf_S
  rw [nb_ur, nb_ur]
  by_cases hq : q = p
  · rw [if_pos hq, if_pos hq]
    by_cases hj : j < 5
    · rw [if_pos hj, if_pos hj, h j hj]
    · rw [if_neg hj, if_neg hj]
  · rw [if_neg hq, if_neg hq]
theorem gf_Sid {σ : sg_S} {p : Nat} {g : Nat → Int32} (h : ∀ i, i < 5 → g i = σ p i) : gf_S σ p g = σ := by
  funext q j
  unfold gf_S
  rw [nb_ur]
  by_cases hq : q = p
  · rw [if_pos hq, hq]
    by_cases hj : j < 5
    · rw [if_pos hj, h j hj]
    · rw [if_neg hj]
  · rw [if_neg hq]
theorem gf_Sup {σ : sg_S} {p : Nat} {g g2 : Nat → Int32} {i : Nat} {v : Int32} (hi : i < 5) (h : ∀ j, j < 5 → (if j = i then v else g j) = g2 j) : sg_up (gf_S σ p g) p i v = gf_S σ p g2 := by
  funext q j
  unfold gf_S
  rw [nb_up, nb_ur, nb_ur]
  by_cases hq : q = p
  · rw [if_pos hq, if_pos hq]
    by_cases hj : j < 5
    · rw [if_pos hj, if_pos hj, ← h j hj]
      by_cases hji : j = i
      · rw [if_pos ⟨hq, hji⟩, if_pos hji]
      · rw [if_neg (fun c => hji c.2), if_neg hji]
    · rw [if_neg hj, if_neg hj, if_neg (fun c => by have := c.2; omega)]
  · rw [if_neg hq, if_neg hq, if_neg (fun c => hq c.1)]
/-! the reference's levels -/
def gf_w (a : Nat → Nat → Bool) (f k q : Nat) : Int32 := if gf_d a f q ≤ k then nb (gf_d a f q) else -1
theorem nb_neg {k : Nat} (h : k < 2147483648) : ¬ ((-1 : Int32) = nb k) := by
  intro e
  have e2 := congrArg Int32.toInt e
  rw [nb_ti h] at e2
  have e3 : (-1 : Int32).toInt = -1 := by decide
  omega
theorem gf_wk {a : Nat → Nat → Bool} {f j k u : Nat} (hkj : k ≤ j) (hj : j ≤ 4) : gf_w a f j u = nb k ↔ gf_d a f u = k := by
  unfold gf_w
  by_cases h : gf_d a f u ≤ j
  · rw [if_pos h, nb_eq (by omega) (by omega)]
  · rw [if_neg h]
    constructor
    · intro e
      exact absurd e (nb_neg (by omega))
    · intro e
      omega
theorem nb_or1 : ∀ b : Bool, nb b.toNat ||| 1 = nb (b || true).toNat := by decide
theorem nb_or0 : ∀ b : Bool, nb b.toNat ||| 0 = nb (b || false).toNat := by decide
theorem gf_f49 {x1 : Int32} {κ31 : Int32 → sg_S → Option sg_S} {κ38 : Int32 → Int32 → sg_S → Option sg_S} {σ : sg_S} {j t : Nat} (ht : t < 5) (p : Nat → Bool) (hp : ∀ u, u < 5 → ((σ 7 u = nb j - 1 ∧ σ 1 (30 + 5 * t + u) = 1) ↔ p u = true)) (i n : Nat) (b : Bool) (hi : i < 5) : f_X8_finds_L49 x1 κ31 κ38 (n + 1) (nb j) (nb t) (nb b.toNat) (nb i) σ = f_X8_finds_L49 x1 κ31 κ38 n (nb j) (nb t) (nb (b || p i).toNat) (nb (i + 1)) σ := by
  have hpf : ¬ (σ 7 i = nb j - 1 ∧ σ 1 (30 + 5 * t + i) = 1) → p i = false := fun h => by
    cases e : p i with
    | false => rfl
    | true => exact absurd ((hp i hi).mpr e) h
  rw [f_X8_finds_L49, if_pos (nb_lt5 hi), nb_grd (nb_i5 hi), nb_t5 hi, nb_succ, nb_tr]
  by_cases h1 : σ 7 i = nb j - 1
  · rw [if_pos h1, nb_grd (nb_i79 (by omega)), nb_t79 (by omega)]
    by_cases h2 : σ 1 (30 + 5 * t + i) = 1
    · rw [if_pos h2, nb_let, (hp i hi).mp ⟨h1, h2⟩, nb_or1]
    · rw [if_neg h2, nb_let, hpf (fun c => h2 c.2), nb_or0]
  · rw [if_neg h1, nb_let, hpf (fun c => h1 c.1), nb_or0]
theorem gf_f49e {x1 : Int32} {κ31 : Int32 → sg_S → Option sg_S} {κ38 : Int32 → Int32 → sg_S → Option sg_S} {σ : sg_S} {j t : Nat} (ht : t < 5) (n : Nat) (b : Bool) : f_X8_finds_L49 x1 κ31 κ38 (n + 1) (nb j) (nb t) (nb b.toNat) (nb 5) σ = κ38 (nb j) (nb (t + 1)) (if b = true ∧ σ 7 t < 0 then sg_up σ 7 t (nb j) else σ) := by
  rw [f_X8_finds_L49, if_neg nb_nlt5, nb_succ]
  cases b with
  | false =>
    rw [if_pos (by decide), if_neg (fun c => Bool.noConfusion c.1)]
  | true =>
    rw [if_neg (by decide), nb_grd (nb_i5 ht), nb_t5 ht]
    by_cases h : σ 7 t < 0
    · rw [if_pos h, if_pos ⟨rfl, h⟩, nb_let]
    · rw [if_neg h, if_neg (fun c => h c.2)]
theorem gf_f49a {x1 : Int32} {κ31 : Int32 → sg_S → Option sg_S} {κ38 : Int32 → Int32 → sg_S → Option sg_S} {σ : sg_S} {j t : Nat} (ht : t < 5) (p : Nat → Bool) (hp : ∀ u, u < 5 → ((σ 7 u = nb j - 1 ∧ σ 1 (30 + 5 * t + u) = 1) ↔ p u = true)) : f_X8_finds_L49 x1 κ31 κ38 1000 (nb j) (nb t) 0 0 σ = κ38 (nb j) (nb (t + 1)) (if gf_any p = true ∧ σ 7 t < 0 then sg_up σ 7 t (nb j) else σ) := by
  have h0 := gf_f49 (x1 := x1) (κ31 := κ31) (κ38 := κ38) ht p hp 0 999 false (by decide)
  have h1 := gf_f49 (x1 := x1) (κ31 := κ31) (κ38 := κ38) ht p hp 1 998 (false || p 0) (by decide)
  have h2 := gf_f49 (x1 := x1) (κ31 := κ31) (κ38 := κ38) ht p hp 2 997 ((false || p 0) || p 1) (by decide)
  have h3 := gf_f49 (x1 := x1) (κ31 := κ31) (κ38 := κ38) ht p hp 3 996 (((false || p 0) || p 1) || p 2) (by decide)
  have h4 := gf_f49 (x1 := x1) (κ31 := κ31) (κ38 := κ38) ht p hp 4 995 ((((false || p 0) || p 1) || p 2) || p 3) (by decide)
  have h5 := gf_f49e (x1 := x1) (κ31 := κ31) (κ38 := κ38) (σ := σ) (j := j) ht 994 (((((false || p 0) || p 1) || p 2) || p 3) || p 4)
  have e : gf_any p = (((((false || p 0) || p 1) || p 2) || p 3) || p 4) := by
    unfold gf_any
    rw [Bool.false_or]
  rw [e]
  exact h0.trans (h1.trans (h2.trans (h3.trans (h4.trans h5))))
def gf_E (σ : sg_S) (a : Nat → Nat → Bool) : Prop := ∀ t u, t < 5 → u < 5 → (σ 1 (30 + 5 * t + u) = 1 ↔ a u t = true)
theorem gf_f38 {κ31 : Int32 → sg_S → Option sg_S} {σ : sg_S} {a : Nat → Nat → Bool} (hE : gf_E σ a) {f : Nat} {k t n : Nat} (hk : k < 4) (ht : t < 5) : f_X8_finds_L38 (nb f) κ31 (n + 1) (nb (k + 1)) (nb t) (gf_S σ 7 (fun q => if q < t then gf_w a f (k + 1) q else gf_w a f k q)) = f_X8_finds_L38 (nb f) κ31 n (nb (k + 1)) (nb (t + 1)) (gf_S σ 7 (fun q => if q < t + 1 then gf_w a f (k + 1) q else gf_w a f k q)) := by
  rw [f_X8_finds_L38, if_pos (nb_lt5 ht)]
  rw [gf_f49a ht (fun u => decide (gf_d a f u = k) && a u t) ?_]
  · congr 1
    rw [gf_Sat ht, if_neg (Nat.lt_irrefl t)]
    by_cases hd : gf_d a f t ≤ k
    · rw [if_neg (fun c => ?_)]
      · apply gf_Sx
        intro i hi
        try dsimp only
        by_cases h1 : i < t
        · rw [if_pos h1, if_pos (by omega)]
        · by_cases h2 : i = t
          · subst h2
            rw [if_neg h1, if_pos (by omega)]
            unfold gf_w
            rw [if_pos hd, if_pos (by omega)]
          · rw [if_neg h1, if_neg (by omega)]
      · have c2 := c.2
        unfold gf_w at c2
        rw [if_pos hd] at c2
        exact nb_nneg (by omega) c2
    · by_cases hl : gf_any (fun u => decide (gf_d a f u = k) && a u t) = true
      · have hd2 := (gf_lvl hk hd).mpr hl
        have hd3 : gf_d a f t = k + 1 := by omega
        rw [if_pos ⟨hl, by unfold gf_w; rw [if_neg hd]; decide⟩]
        apply gf_Sup ht
        intro i hi
        try dsimp only
        by_cases h2 : i = t
        · subst h2
          rw [if_pos rfl, if_pos (by omega)]
          unfold gf_w
          rw [if_pos hd2, hd3]
        · rw [if_neg h2]
          by_cases h1 : i < t
          · rw [if_pos h1, if_pos (by omega)]
          · rw [if_neg h1, if_neg (by omega)]
      · rw [if_neg (fun c => hl c.1)]
        have hd2 : ¬ gf_d a f t ≤ k + 1 := fun c => hl ((gf_lvl hk hd).mp c)
        apply gf_Sx
        intro i hi
        try dsimp only
        by_cases h1 : i < t
        · rw [if_pos h1, if_pos (by omega)]
        · by_cases h2 : i = t
          · subst h2
            rw [if_neg h1, if_pos (by omega)]
            unfold gf_w
            rw [if_neg hd, if_neg hd2]
          · rw [if_neg h1, if_neg (by omega)]
  · intro u hu
    have e1 : nb (k + 1) - 1 = nb k := nb_sub (a := k + 1) (b := 1) (by omega)
    rw [e1, gf_Sat hu, gf_Sne (by decide), hE t u ht hu]
    have e2 : (if u < t then gf_w a f (k + 1) u else gf_w a f k u) = nb k ↔ gf_d a f u = k := by
      by_cases h1 : u < t
      · rw [if_pos h1]
        exact gf_wk (by omega) (by omega)
      · rw [if_neg h1]
        exact gf_wk (by omega) (by omega)
    rw [e2]
    simp only [Bool.and_eq_true, decide_eq_true_eq]
theorem gf_f31 {σ : sg_S} {a : Nat → Nat → Bool} (hE : gf_E σ a) {f : Nat} {k n : Nat} (hk : k < 4) : f_X8_finds_L31 (nb f) (n + 1) (nb (k + 1)) (gf_S σ 7 (gf_w a f k)) = f_X8_finds_L31 (nb f) n (nb (k + 2)) (gf_S σ 7 (gf_w a f (k + 1))) := by
  rw [f_X8_finds_L31, if_pos (nb_lt5 (by omega))]
  have e0 : gf_S σ 7 (gf_w a f k) = gf_S σ 7 (fun q => if q < 0 then gf_w a f (k + 1) q else gf_w a f k q) := gf_Sx (fun i _ => by rw [if_neg (Nat.not_lt_zero i)])
  have e5 : gf_S σ 7 (fun q => if q < 5 then gf_w a f (k + 1) q else gf_w a f k q) = gf_S σ 7 (gf_w a f (k + 1)) := gf_Sx (fun i hi => by rw [if_pos hi])
  rw [e0]
  refine (gf_f38 hE (n := 999) hk (t := 0) (by decide)).trans ((gf_f38 hE (n := 998) hk (t := 1) (by decide)).trans ((gf_f38 hE (n := 997) hk (t := 2) (by decide)).trans ((gf_f38 hE (n := 996) hk (t := 3) (by decide)).trans ((gf_f38 hE (n := 995) hk (t := 4) (by decide)).trans ?_))))
  rw [f_X8_finds_L38, if_neg nb_nlt5, nb_succ, e5]
theorem gf_f2 {σ : sg_S} {a : Nat → Nat → Bool} {f : Nat} (hf : f < 5) {i n : Nat} (hi : i < 5) : f_X8_finds_L2 (nb f) (n + 1) (nb i) (gf_S σ 7 (fun q => if q < i then gf_w a f 0 q else σ 7 q)) = f_X8_finds_L2 (nb f) n (nb (i + 1)) (gf_S σ 7 (fun q => if q < i + 1 then gf_w a f 0 q else σ 7 q)) := by
  rw [f_X8_finds_L2, if_pos (nb_lt5 hi), nb_grd (nb_i5 hi), nb_grd (nb_i5 hi), nb_let, nb_let, nb_t5 hi, nb_succ]
  have hd : ∀ q, gf_d a f q ≤ 0 ↔ q = f := fun q => (gf_dle (by decide)).trans ⟨fun h => Nat.eq_of_beq_eq_true h, fun h => by rw [h]; exact Nat.beq_refl f⟩
  have key : ∀ v, gf_w a f 0 i = v → sg_up (gf_S σ 7 (fun q => if q < i then gf_w a f 0 q else σ 7 q)) 7 i v = gf_S σ 7 (fun q => if q < i + 1 then gf_w a f 0 q else σ 7 q) := by
    intro v hv
    apply gf_Sup hi
    intro j hj
    try dsimp only
    by_cases h2 : j = i
    · subst h2
      rw [if_pos rfl, if_pos (by omega), hv]
    · rw [if_neg h2]
      by_cases h1 : j < i
      · rw [if_pos h1, if_pos (by omega)]
      · rw [if_neg h1, if_neg (by omega)]
  by_cases h : i = f
  · rw [if_pos (by rw [h]), key 0 (by
      unfold gf_w
      have := (hd i).mpr h
      rw [if_pos this, (by omega : gf_d a f i = 0)]
      rfl)]
  · rw [if_neg (nb_ne h (by omega) (by omega)), key (-1) (by
      unfold gf_w
      rw [if_neg (fun c => h ((hd i).mp c))])]
theorem gf_finds {σ : sg_S} {a : Nat → Nat → Bool} (hE : gf_E σ a) {f : Nat} (hf : f < 5) : f_X8_finds (nb f) σ = some (gf_S σ 7 (gf_w a f 4)) := by
  have e0 : σ = gf_S σ 7 (fun q => if q < 0 then gf_w a f 0 q else σ 7 q) := (gf_Sid (fun i _ => by rw [if_neg (Nat.not_lt_zero i)])).symm
  have e5 : gf_S σ 7 (fun q => if q < 5 then gf_w a f 0 q else σ 7 q) = gf_S σ 7 (gf_w a f 0) := gf_Sx (fun i hi => by rw [if_pos hi])
  have s1 : f_X8_finds_L2 (nb f) 1000 (nb 0) (gf_S σ 7 (fun q => if q < 0 then gf_w a f 0 q else σ 7 q)) = f_X8_finds_L31 (nb f) 1000 (nb 1) (gf_S σ 7 (gf_w a f 0)) := by
    refine (gf_f2 hf (n := 999) (i := 0) (by decide)).trans ((gf_f2 hf (n := 998) (i := 1) (by decide)).trans ((gf_f2 hf (n := 997) (i := 2) (by decide)).trans ((gf_f2 hf (n := 996) (i := 3) (by decide)).trans ((gf_f2 hf (n := 995) (i := 4) (by decide)).trans ?_))))
    rw [f_X8_finds_L2, if_neg nb_nlt5, e5]
    try rfl
  have s2 : f_X8_finds_L31 (nb f) 1000 (nb 1) (gf_S σ 7 (gf_w a f 0)) = some (gf_S σ 7 (gf_w a f 4)) := by
    refine (gf_f31 hE (n := 999) (k := 0) (by decide)).trans ((gf_f31 hE (n := 998) (k := 1) (by decide)).trans ((gf_f31 hE (n := 997) (k := 2) (by decide)).trans ((gf_f31 hE (n := 996) (k := 3) (by decide)).trans ?_)))
    rw [f_X8_finds_L31, if_neg nb_nlt5]
  have s3 := s1.trans s2
  rw [← e0] at s3
  exact s3
/-! what a town gets -/
def gf_g (a : Nat → Nat → Bool) (f H t : Nat) : Nat := if gf_d a f t ≤ 4 then H / 2 ^ gf_d a f t else 0
theorem gf_gle (a : Nat → Nat → Bool) (f H t : Nat) : gf_g a f H t ≤ H := by
  unfold gf_g
  by_cases h : gf_d a f t ≤ 4
  · rw [if_pos h]
    exact Nat.div_le_self H _
  · rw [if_neg h]
    exact Nat.zero_le H
theorem gf_sh18 {x1 x2 : Int32} {σ : sg_S} {t d : Nat} (ht : t < 5) (e1 : x1 = nb t) (hd : d ≤ 4) (e : σ 7 t = nb d) : ∀ m i n v : Nat, i + m = d → m < n → v < 2147483648 → f_X8_share_L18 x1 x2 σ n (nb v) (nb i) = some (nb (v / 2 ^ m)) := by
  intro m
  induction m with
  | zero =>
    intro i n v h1 h2 hv
    obtain ⟨n, rfl⟩ : ∃ k, n = k + 1 := ⟨n - 1, by omega⟩
    rw [f_X8_share_L18, e1, nb_grd (nb_i5 ht), nb_t5 ht, e, if_neg (nb_lt_f (by omega) (by omega))]
    simp
  | succ m ih =>
    intro i n v h1 h2 hv
    obtain ⟨n, rfl⟩ : ∃ k, n = k + 1 := ⟨n - 1, by omega⟩
    rw [f_X8_share_L18, e1, nb_grd (nb_i5 ht), nb_t5 ht, e, if_pos (nb_lt_t (by omega) (by omega)), nb_let, nb_succ]
    have e2 : nb v / 2 = nb (v / 2) := nb_div (b := 2) hv (by decide)
    have hv2 : v / 2 < 2147483648 := by omega
    rw [e2, ← e1, ih (i + 1) n (v / 2) (by omega) (by omega) hv2, Nat.div_div_eq_div_mul, Nat.pow_succ, Nat.mul_comm]
theorem gf_share {σ : sg_S} {a : Nat → Nat → Bool} {f t H : Nat} (ht : t < 5) (hH : H < 2147483648) (e : σ 7 t = gf_w a f 4 t) : f_X8_share (nb t) (nb H) σ = some (nb (gf_g a f H t)) := by
  unfold f_X8_share gf_g
  unfold gf_w at e
  by_cases h : gf_d a f t ≤ 4
  · rw [if_pos h] at e
    rw [if_pos h, nb_grd (nb_i5 ht), nb_t5 ht, e, if_neg (nb_nneg (by omega))]
    exact gf_sh18 ht rfl h e (gf_d a f t) 0 1000 H (by omega) (by omega) hH
  · rw [if_neg h] at e
    rw [if_neg h, nb_grd (nb_i5 ht), nb_t5 ht, e, if_pos (by decide), f_X8_share_L18, nb_grd (nb_i5 ht), nb_t5 ht, e, if_neg (by decide)]
    try rfl
theorem gf_shr : ∀ H, H < 41 → ∀ d, d < 5 → nb H >>> (nb d &&& 31) = nb (H / 2 ^ d) := by decide +kernel
theorem gf_halved {σ : sg_S} {a : Nat → Nat → Bool} (hT : gf_T σ a) {f o H : Nat} (hf : f < 5) (ho : o < 5) (hH : H < 41) : f_X6_halvedBySteps (nb f) (nb H) (nb o) σ = some (nb (gf_g a f H o)) := by
  unfold f_X6_halvedBySteps gf_g
  rw [gf_steps hT hf ho, nb_bnd]
  unfold gf_far
  by_cases h : gf_d a f o ≤ 4
  · rw [if_pos h, if_pos h, if_neg ?_, gf_shr H hH (gf_d a f o) (by omega)]
    intro c
    have c2 := congrArg Int32.toInt c
    rw [nb_ti (by omega)] at c2
    have e3 : (-6 : Int32).toInt = -6 := by decide
    omega
  · rw [if_neg h, if_neg h, if_pos rfl]
    try rfl

/-! the class's halves in rounds -/
def gf_y (a : Nat → Nat → Bool) (t : Nat) (g : Nat → Nat) : Nat → Nat := fun q => if a t q = true ∧ g q < g t / 2 then g t / 2 else g q
def gf_x (a : Nat → Nat → Bool) (t h u : Nat) (g : Nat → Nat) : Nat → Nat := fun q => if q < u ∧ a t q = true ∧ g q < h then h else g q
def gf_rd (a : Nat → Nat → Bool) (g : Nat → Nat) : Nat → Nat := gf_y a 4 (gf_y a 3 (gf_y a 2 (gf_y a 1 (gf_y a 0 g))))
def gf_D (σ : sg_S) (g : Nat → Nat) : sg_S := gf_S σ 2 (fun q => nb (g q))
def gf_B (g : Nat → Nat) : Prop := ∀ q, q < 5 → g q < 2147483648
theorem gf_xB {a : Nat → Nat → Bool} {t h u : Nat} {g : Nat → Nat} (hg : gf_B g) (hh : h < 2147483648) : gf_B (gf_x a t h u g) := by
  intro q hq
  unfold gf_x
  by_cases c : q < u ∧ a t q = true ∧ g q < h
  · rw [if_pos c]
    exact hh
  · rw [if_neg c]
    exact hg q hq
theorem gf_s59 {x1 x2 : Int32} {κ31 : Int32 → sg_S → Option sg_S} {κ39 : Int32 → Int32 → sg_S → Option sg_S} {σ : sg_S} {a : Nat → Nat → Bool} (hT : gf_T σ a) {g : Nat → Nat} (hg : gf_B g) {t h u n : Nat} (z3 : Int32) (ht : t < 5) (hh : h < 2147483648) (hu : u < 5) : f_X6_spread_L59 x1 x2 κ31 κ39 (n + 1) z3 (nb t) (nb h) (nb u) (gf_D σ (gf_x a t h u g)) = f_X6_spread_L59 x1 x2 κ31 κ39 n z3 (nb t) (nb h) (nb (u + 1)) (gf_D σ (gf_x a t h (u + 1) g)) := by
  rw [f_X6_spread_L59, if_pos (nb_lt5 hu), nb_grd (nb_i5 ht), nb_t5 ht, nb_t5 hu, nb_succ]
  have e1 : gf_D σ (gf_x a t h u g) 1 t = nb (gf_m (a t)) := by
    unfold gf_D
    rw [gf_Sne (by decide), hT t ht]
  have e2 : gf_D σ (gf_x a t h u g) 2 u = nb (g u) := by
    unfold gf_D
    rw [gf_Sat hu]
    unfold gf_x
    rw [if_neg (fun c => Nat.lt_irrefl u c.1)]
  rw [e1]
  have same : ¬ (a t u = true ∧ g u < h) → gf_D σ (gf_x a t h u g) = gf_D σ (gf_x a t h (u + 1) g) := by
    intro hn
    apply gf_Sx
    intro i hi
    unfold gf_x
    try dsimp only
    by_cases c : i < u ∧ a t i = true ∧ g i < h
    · rw [if_pos c, if_pos ⟨by omega, c.2⟩]
    · rw [if_neg c, if_neg (fun d => by
        by_cases e : i = u
        · subst e
          exact hn d.2
        · exact c ⟨by omega, d.2⟩)]
  by_cases ha : a t u = true
  · rw [if_pos ((gf_bit hu).mpr ha), nb_grd (nb_i5 hu), e2]
    by_cases hl : g u < h
    · rw [if_pos (nb_lt_t hl hh), nb_let]
      congr 1
      apply gf_Sup hu
      intro i hi
      unfold gf_x
      try dsimp only
      by_cases e : i = u
      · subst e
        rw [if_pos rfl, if_pos ⟨by omega, ha, hl⟩]
      · rw [if_neg e]
        by_cases c : i < u ∧ a t i = true ∧ g i < h
        · rw [if_pos c, if_pos ⟨by omega, c.2⟩]
        · rw [if_neg c, if_neg (fun d => c ⟨by omega, d.2⟩)]
    · rw [if_neg (nb_lt_f (by omega) (hg u hu)), same (fun c => hl c.2)]
  · rw [if_neg (fun c => ha ((gf_bit hu).mp c)), same (fun c => ha c.1)]
theorem gf_yB {a : Nat → Nat → Bool} {t : Nat} (ht : t < 5) {g : Nat → Nat} (hg : gf_B g) : gf_B (gf_y a t g) := by
  intro q hq
  unfold gf_y
  have := hg t ht
  by_cases c : a t q = true ∧ g q < g t / 2
  · rw [if_pos c]
    omega
  · rw [if_neg c]
    exact hg q hq
theorem gf_s39 {x1 x2 : Int32} {κ31 : Int32 → sg_S → Option sg_S} {σ : sg_S} {a : Nat → Nat → Bool} (hT : gf_T σ a) {g : Nat → Nat} (hg : gf_B g) {t n : Nat} (z3 : Int32) (ht : t < 5) : f_X6_spread_L39 x1 x2 κ31 (n + 1) z3 (nb t) (gf_D σ g) = f_X6_spread_L39 x1 x2 κ31 n z3 (nb (t + 1)) (gf_D σ (gf_y a t g)) := by
  have hh : g t / 2 < 2147483648 := by
    have := hg t ht
    omega
  rw [f_X6_spread_L39, if_pos (nb_lt5 ht), nb_grd (nb_i5 ht), nb_t5 ht]
  have e2 : gf_D σ g 2 t / 2 = nb (g t / 2) := by
    unfold gf_D
    rw [gf_Sat ht]
    exact nb_div (b := 2) (hg t ht) (by decide)
  rw [e2, nb_let]
  have e0 : gf_D σ g = gf_D σ (gf_x a t (g t / 2) 0 g) := gf_Sx (fun i _ => by
    unfold gf_x
    rw [if_neg (fun c => Nat.not_lt_zero i c.1)])
  have e5 : gf_D σ (gf_x a t (g t / 2) 5 g) = gf_D σ (gf_y a t g) := gf_Sx (fun i hi => by
    unfold gf_x gf_y
    try dsimp only
    by_cases c : a t i = true ∧ g i < g t / 2
    · rw [if_pos ⟨hi, c⟩, if_pos c]
    · rw [if_neg (fun d => c d.2), if_neg c])
  rw [e0]
  refine (gf_s59 hT hg (n := 999) (u := 0) z3 ht hh (by decide)).trans ((gf_s59 hT hg (n := 998) (u := 1) z3 ht hh (by decide)).trans ((gf_s59 hT hg (n := 997) (u := 2) z3 ht hh (by decide)).trans ((gf_s59 hT hg (n := 996) (u := 3) z3 ht hh (by decide)).trans ((gf_s59 hT hg (n := 995) (u := 4) z3 ht hh (by decide)).trans ?_))))
  rw [f_X6_spread_L59, if_neg nb_nlt5, nb_succ, e5]
theorem gf_s31 {x1 x2 : Int32} {σ : sg_S} {a : Nat → Nat → Bool} (hT : gf_T σ a) {g : Nat → Nat} (hg : gf_B g) {r n : Nat} (hr : r < 5) : f_X6_spread_L31 x1 x2 (n + 1) (nb r) (gf_D σ g) = f_X6_spread_L31 x1 x2 n (nb (r + 1)) (gf_D σ (gf_rd a g)) := by
  rw [f_X6_spread_L31, if_pos (nb_lt5 hr)]
  have b0 := gf_yB (a := a) (t := 0) (by decide) hg
  have b1 := gf_yB (a := a) (t := 1) (by decide) b0
  have b2 := gf_yB (a := a) (t := 2) (by decide) b1
  have b3 := gf_yB (a := a) (t := 3) (by decide) b2
  refine (gf_s39 hT hg (n := 999) (t := 0) (nb r) (by decide)).trans ((gf_s39 hT b0 (n := 998) (t := 1) (nb r) (by decide)).trans ((gf_s39 hT b1 (n := 997) (t := 2) (nb r) (by decide)).trans ((gf_s39 hT b2 (n := 996) (t := 3) (nb r) (by decide)).trans ((gf_s39 hT b3 (n := 995) (t := 4) (nb r) (by decide)).trans ?_))))
  rw [f_X6_spread_L39, if_neg nb_nlt5, nb_succ]
  try rfl
theorem gf_s2 {σ : sg_S} {f : Nat} (hf : f < 5) {H i n : Nat} (hi : i < 5) : f_X6_spread_L2 (nb f) (nb H) (n + 1) (nb i) (gf_S σ 2 (fun q => if q < i then nb (if q = f then H else 0) else σ 2 q)) = f_X6_spread_L2 (nb f) (nb H) n (nb (i + 1)) (gf_S σ 2 (fun q => if q < i + 1 then nb (if q = f then H else 0) else σ 2 q)) := by
  rw [f_X6_spread_L2, if_pos (nb_lt5 hi), nb_grd (nb_i5 hi), nb_grd (nb_i5 hi), nb_let, nb_let, nb_t5 hi, nb_succ]
  have key : ∀ v, nb (if i = f then H else 0) = v → sg_up (gf_S σ 2 (fun q => if q < i then nb (if q = f then H else 0) else σ 2 q)) 2 i v = gf_S σ 2 (fun q => if q < i + 1 then nb (if q = f then H else 0) else σ 2 q) := by
    intro v hv
    apply gf_Sup hi
    intro j hj
    try dsimp only
    by_cases h2 : j = i
    · subst h2
      rw [if_pos rfl, if_pos (by omega), hv]
    · rw [if_neg h2]
      by_cases h1 : j < i
      · rw [if_pos h1, if_pos (show j < i + 1 by omega)]
      · rw [if_neg h1, if_neg (by omega)]
  by_cases h : i = f
  · rw [if_pos (by rw [h]), key (nb H) (by rw [if_pos h])]
  · rw [if_neg (nb_ne h (by omega) (by omega)), key 0 (by rw [if_neg h]; try rfl)]
theorem gf_half {a : Nat → Nat → Bool} {f H t q : Nat} (hf : f < 5) (ht : t < 5) (hq : q < 5) (e : a t q = true) : gf_g a f H t / 2 ≤ gf_g a f H q := by
  unfold gf_g
  by_cases h : gf_d a f t ≤ 4
  · rw [if_pos h]
    have h4 : gf_r a f 4 t = true := (gf_dle (by decide)).mp h
    have q4 : gf_d a f q ≤ 4 := (gf_dle (by decide)).mpr (gf_shut hf ht hq h4 e)
    have q1 : gf_d a f q ≤ gf_d a f t + 1 := by
      rcases (by omega : gf_d a f t = 4 ∨ gf_d a f t ≤ 3) with c | c
      · omega
      · exact (gf_dle (by omega)).mpr (gf_step ht ((gf_dle (by omega)).mp (Nat.le_refl _)) e)
    rw [if_pos q4, Nat.div_div_eq_div_mul, ← Nat.pow_succ]
    exact Nat.div_le_div_left (Nat.pow_le_pow_right (by decide) q1) (Nat.pow_pos (by decide))
  · rw [if_neg h]
    omega
theorem gf_yle {a : Nat → Nat → Bool} {f H t : Nat} {g : Nat → Nat} (hf : f < 5) (ht : t < 5) (h : ∀ q, q < 5 → g q ≤ gf_g a f H q) : ∀ q, q < 5 → gf_y a t g q ≤ gf_g a f H q := by
  intro q hq
  unfold gf_y
  by_cases c : a t q = true ∧ g q < g t / 2
  · rw [if_pos c]
    have h1 := gf_half (H := H) hf ht hq c.1
    have h2 := h t ht
    omega
  · rw [if_neg c]
    exact h q hq
theorem gf_yge (a : Nat → Nat → Bool) (t : Nat) (g : Nat → Nat) (q : Nat) : g q ≤ gf_y a t g q := by
  unfold gf_y
  by_cases c : a t q = true ∧ g q < g t / 2
  · rw [if_pos c]
    omega
  · rw [if_neg c]
    omega
theorem gf_yget {a : Nat → Nat → Bool} {t : Nat} {g : Nat → Nat} {q : Nat} (e : a t q = true) : g t / 2 ≤ gf_y a t g q := by
  unfold gf_y
  by_cases c : g q < g t / 2
  · rw [if_pos ⟨e, c⟩]
    exact Nat.le_refl _
  · rw [if_neg (fun d => c d.2)]
    omega
theorem gf_rdle {a : Nat → Nat → Bool} {f H : Nat} {g : Nat → Nat} (hf : f < 5) (h : ∀ q, q < 5 → g q ≤ gf_g a f H q) : ∀ q, q < 5 → gf_rd a g q ≤ gf_g a f H q := gf_yle hf (by decide) (gf_yle hf (by decide) (gf_yle hf (by decide) (gf_yle hf (by decide) (gf_yle hf (by decide) h))))
theorem gf_rdge {a : Nat → Nat → Bool} {f H k : Nat} {g : Nat → Nat} (hk : k < 4) (h : ∀ q, q < 5 → gf_d a f q ≤ k → gf_g a f H q ≤ g q) : ∀ q, q < 5 → gf_d a f q ≤ k + 1 → gf_g a f H q ≤ gf_rd a g q := by
  intro q hq hd
  have m0 := gf_yge a 0 g
  have m1 := gf_yge a 1 (gf_y a 0 g)
  have m2 := gf_yge a 2 (gf_y a 1 (gf_y a 0 g))
  have m3 := gf_yge a 3 (gf_y a 2 (gf_y a 1 (gf_y a 0 g)))
  have m4 := gf_yge a 4 (gf_y a 3 (gf_y a 2 (gf_y a 1 (gf_y a 0 g))))
  have a0 := m0 q
  have a1 := m1 q
  have a2 := m2 q
  have a3 := m3 q
  have a4 := m4 q
  rcases (by omega : gf_d a f q ≤ k ∨ gf_d a f q = k + 1) with c | c
  · have := h q hq c
    unfold gf_rd
    omega
  · have hr : gf_r a f k q = false := by
      cases e : gf_r a f k q with
      | false => rfl
      | true =>
        have := (gf_dle (by omega)).mpr e
        omega
    obtain ⟨u, hu, h1, h2⟩ := gf_back ((gf_dle (by omega)).mp (by omega : gf_d a f q ≤ k + 1)) hr
    have du : gf_d a f u ≤ k := (gf_dle (by omega)).mpr h1
    have du2 : gf_d a f u = k := by
      rcases Nat.lt_or_ge (gf_d a f u) k with s | s
      · exfalso
        have q2 : gf_r a f (k - 1) u = true := (gf_dle (by omega)).mp (by omega)
        have q3 := gf_step hu q2 h2
        rw [(by omega : k - 1 + 1 = k), hr] at q3
        cases q3
      · omega
    have hg := h u hu du
    have eq : gf_g a f H q = gf_g a f H u / 2 := by
      unfold gf_g
      rw [if_pos (by omega), if_pos (by omega), c, du2, Nat.div_div_eq_div_mul, ← Nat.pow_succ]
    rw [eq]
    unfold gf_rd
    have b0 := m0 u
    have b1 := m1 u
    have b2 := m2 u
    have b3 := m3 u
    rcases (by omega : u = 0 ∨ u = 1 ∨ u = 2 ∨ u = 3 ∨ u = 4) with rfl | rfl | rfl | rfl | rfl
    · have s := gf_yget (g := g) h2
      omega
    · have s := gf_yget (g := gf_y a 0 g) h2
      omega
    · have s := gf_yget (g := gf_y a 1 (gf_y a 0 g)) h2
      omega
    · have s := gf_yget (g := gf_y a 2 (gf_y a 1 (gf_y a 0 g))) h2
      omega
    · have s := gf_yget (g := gf_y a 3 (gf_y a 2 (gf_y a 1 (gf_y a 0 g)))) h2
      omega
theorem gf_rdB {a : Nat → Nat → Bool} {g : Nat → Nat} (hg : gf_B g) : gf_B (gf_rd a g) := gf_yB (by decide) (gf_yB (by decide) (gf_yB (by decide) (gf_yB (by decide) (gf_yB (by decide) hg))))
theorem gf_spread {σ : sg_S} {a : Nat → Nat → Bool} (hT : gf_T σ a) {f H : Nat} (hf : f < 5) (hH : H < 2147483648) : f_X6_spread (nb f) (nb H) σ = some (gf_D σ (gf_g a f H)) := by
  have e0 : σ = gf_S σ 2 (fun q => if q < 0 then nb (if q = f then H else 0) else σ 2 q) := (gf_Sid (fun i _ => by rw [if_neg (Nat.not_lt_zero i)])).symm
  have e5 : gf_S σ 2 (fun q => if q < 5 then nb (if q = f then H else 0) else σ 2 q) = gf_D σ (fun q => if q = f then H else 0) := gf_Sx (fun i hi => by rw [if_pos hi])
  have B0 : gf_B (fun q => if q = f then H else 0) := by
    intro q hq
    try dsimp only
    by_cases c : q = f
    · rw [if_pos c]
      exact hH
    · rw [if_neg c]
      decide
  have B1 := gf_rdB (a := a) B0
  have B2 := gf_rdB (a := a) B1
  have B3 := gf_rdB (a := a) B2
  have s1 : f_X6_spread_L2 (nb f) (nb H) 1000 (nb 0) (gf_S σ 2 (fun q => if q < 0 then nb (if q = f then H else 0) else σ 2 q)) = f_X6_spread_L31 (nb f) (nb H) 1000 (nb 1) (gf_D σ (fun q => if q = f then H else 0)) := by
    refine (gf_s2 hf (n := 999) (i := 0) (by decide)).trans ((gf_s2 hf (n := 998) (i := 1) (by decide)).trans ((gf_s2 hf (n := 997) (i := 2) (by decide)).trans ((gf_s2 hf (n := 996) (i := 3) (by decide)).trans ((gf_s2 hf (n := 995) (i := 4) (by decide)).trans ?_))))
    rw [f_X6_spread_L2, if_neg nb_nlt5, e5]
    try rfl
  have s2 : f_X6_spread_L31 (nb f) (nb H) 1000 (nb 1) (gf_D σ (fun q => if q = f then H else 0)) = some (gf_D σ (gf_rd a (gf_rd a (gf_rd a (gf_rd a (fun q => if q = f then H else 0)))))) := by
    refine (gf_s31 hT B0 (n := 999) (r := 1) (by decide)).trans ((gf_s31 hT B1 (n := 998) (r := 2) (by decide)).trans ((gf_s31 hT B2 (n := 997) (r := 3) (by decide)).trans ((gf_s31 hT B3 (n := 996) (r := 4) (by decide)).trans ?_)))
    rw [f_X6_spread_L31, if_neg nb_nlt5]
  have d0 : gf_d a f f = 0 := by
    have : gf_d a f f ≤ 0 := (gf_dle (by decide)).mpr (Nat.beq_refl f)
    omega
  have dz : ∀ q, gf_d a f q ≤ 0 → q = f := fun q h => Nat.eq_of_beq_eq_true ((gf_dle (by decide)).mp h)
  have gf0 : gf_g a f H f = H := by
    unfold gf_g
    rw [d0, if_pos (by decide)]
    simp
  have up0 : ∀ q, q < 5 → (fun q => if q = f then H else 0) q ≤ gf_g a f H q := by
    intro q hq
    try dsimp only
    by_cases c : q = f
    · rw [if_pos c, c, gf0]
      exact Nat.le_refl H
    · rw [if_neg c]
      exact Nat.zero_le _
  have lo0 : ∀ q, q < 5 → gf_d a f q ≤ 0 → gf_g a f H q ≤ (fun q => if q = f then H else 0) q := by
    intro q hq hd
    have c := dz q hd
    try dsimp only
    rw [if_pos c]
    exact gf_gle a f H q
  have up4 := gf_rdle hf (gf_rdle hf (gf_rdle hf (gf_rdle hf up0)))
  have lo4 := gf_rdge (k := 3) (by decide) (gf_rdge (k := 2) (by decide) (gf_rdge (k := 1) (by decide) (gf_rdge (k := 0) (by decide) lo0)))
  have fin : gf_D σ (gf_rd a (gf_rd a (gf_rd a (gf_rd a (fun q => if q = f then H else 0))))) = gf_D σ (gf_g a f H) := by
    apply gf_Sx
    intro i hi
    try dsimp only
    have u := up4 i hi
    congr 1
    by_cases c : gf_d a f i ≤ 4
    · have l := lo4 i hi c
      omega
    · have z : gf_g a f H i = 0 := by
        unfold gf_g
        rw [if_neg c]
      omega
  have s3 := s1.trans s2
  rw [← e0, fin] at s3
  exact s3
