/-! PURE: shortest ways, told by the law's own three loops -/
def fw_0 (a : Nat → Nat → Bool) (t u : Nat) : Nat := if t = u then 0 else if a t u = true then 1 else 9
def fw_n (M : Nat → Nat → Nat) (k t u : Nat) : Nat := min (M t u) (M t k + M k u)
def fw_P (a : Nat → Nat → Bool) : Nat → Nat → Nat → Nat
  | 0 => fw_0 a
  | k + 1 => fw_n (fw_P a k) k
theorem fw_row (M : Nat → Nat → Nat) (k t : Nat) : fw_n M k t k = M t k := by
  unfold fw_n
  omega
theorem fw_col (M : Nat → Nat → Nat) (k u : Nat) : fw_n M k k u = M k u := by
  unfold fw_n
  omega
theorem fw_le (a : Nat → Nat → Bool) (t u : Nat) : ∀ k, fw_P a k t u ≤ fw_0 a t u := by
  intro k
  induction k with
  | zero => exact Nat.le_refl _
  | succ k ih =>
    show min (fw_P a k t u) (fw_P a k t k + fw_P a k k u) ≤ fw_0 a t u
    omega
theorem fw_09 (a : Nat → Nat → Bool) (t u : Nat) : fw_0 a t u ≤ 9 := by
  unfold fw_0
  split
  · omega
  · split <;> omega
theorem fw_9 (a : Nat → Nat → Bool) (k t u : Nat) : fw_P a k t u ≤ 9 := Nat.le_trans (fw_le a t u k) (fw_09 a t u)
theorem fw_tri (a : Nat → Nat → Bool) : ∀ k t u v, v < k → fw_P a k t u ≤ fw_P a k t v + fw_P a k v u := by
  intro k
  induction k with
  | zero => exact fun t u v h => absurd h (Nat.not_lt_zero v)
  | succ k ih =>
    intro t u v hv
    show min (fw_P a k t u) (fw_P a k t k + fw_P a k k u) ≤ min (fw_P a k t v) (fw_P a k t k + fw_P a k k v) + min (fw_P a k v u) (fw_P a k v k + fw_P a k k u)
    by_cases e : v = k
    · subst e
      omega
    · have h1 := ih t u v (by omega)
      have h2 := ih t k v (by omega)
      have h3 := ih k u v (by omega)
      omega
theorem fd_9 (a : Nat → Nat → Bool) (f t : Nat) : gf_d a f t ≤ 9 := by
  have := gf_d49 a f t
  omega
theorem fd_st {a : Nat → Nat → Bool} {f v t : Nat} (hf : f < 5) (hv : v < 5) (ht : t < 5) (e : a v t = true) : gf_d a f t ≤ gf_d a f v + 1 := by
  rcases gf_d49 a f v with h | h
  · have h4 : gf_r a f 4 v = true := (gf_dle (by decide)).mp h
    have q4 : gf_d a f t ≤ 4 := (gf_dle (by decide)).mpr (gf_shut hf hv ht h4 e)
    rcases (by omega : gf_d a f v = 4 ∨ gf_d a f v ≤ 3) with c | c
    · omega
    · exact (gf_dle (by omega)).mpr (gf_step hv ((gf_dle (by omega)).mp (Nat.le_refl _)) e)
  · have := fd_9 a f t
    omega
theorem fd_0 (a : Nat → Nat → Bool) (f : Nat) : gf_d a f f = 0 := gz_d0.mpr rfl
/-- a town that is d + 1 away has one on the way -/
theorem fd_back {a : Nat → Nat → Bool} {f t d : Nat} (h : gf_d a f t = d + 1) (h4 : d + 1 ≤ 4) : ∃ v, v < 5 ∧ gf_d a f v ≤ d ∧ a v t = true := by
  have r1 : gf_r a f (d + 1) t = true := (gf_dle h4).mp (by omega)
  have r0 : gf_r a f d t = false := by
    cases e : gf_r a f d t with
    | false => rfl
    | true =>
      have := (gf_dle (by omega : d ≤ 4)).mpr e
      omega
  obtain ⟨v, hv, h1, h2⟩ := gf_back r1 r0
  exact ⟨v, hv, (gf_dle (by omega)).mpr h1, h2⟩
theorem fd_tri {a : Nat → Nat → Bool} {f s : Nat} (hf : f < 5) : ∀ d t, t < 5 → gf_d a s t ≤ d → d ≤ 4 → gf_d a f t ≤ gf_d a f s + gf_d a s t := by
  intro d
  induction d with
  | zero =>
    intro t ht h _
    have : t = s := (gz_d0 (a := a)).mp (by omega)
    subst this
    omega
  | succ d ih =>
    intro t ht h h4
    rcases (by omega : gf_d a s t ≤ d ∨ gf_d a s t = d + 1) with c | c
    · exact ih t ht c (by omega)
    · obtain ⟨v, hv, h1, h2⟩ := fd_back c h4
      have i := ih v hv h1 (by omega)
      have j := fd_st hf hv ht h2
      omega
theorem fd_tri2 {a : Nat → Nat → Bool} {f s t : Nat} (hf : f < 5) (ht : t < 5) : gf_d a f t ≤ gf_d a f s + gf_d a s t := by
  rcases gf_d49 a s t with h | h
  · exact fd_tri hf 4 t ht h (by decide)
  · have := fd_9 a f t
    omega
theorem fw_low {a : Nat → Nat → Bool} : ∀ k, k ≤ 5 → ∀ t u, t < 5 → u < 5 → gf_d a t u ≤ fw_P a k t u := by
  intro k
  induction k with
  | zero =>
    intro _ t u ht hu
    show gf_d a t u ≤ fw_0 a t u
    unfold fw_0
    by_cases e : t = u
    · rw [if_pos e, e, fd_0]
      exact Nat.le_refl 0
    · rw [if_neg e]
      by_cases c : a t u = true
      · rw [if_pos c]
        have := fd_st (f := t) ht ht hu c
        rw [fd_0] at this
        exact this
      · rw [if_neg c]
        exact fd_9 a t u
  | succ k ih =>
    intro hk t u ht hu
    show gf_d a t u ≤ min (fw_P a k t u) (fw_P a k t k + fw_P a k k u)
    have h1 := ih (by omega) t u ht hu
    have h2 := ih (by omega) t k ht (by omega)
    have h3 := ih (by omega) k u (by omega) hu
    have h4 := fd_tri2 (a := a) (f := t) (s := k) (t := u) ht hu
    omega
theorem fw_up {a : Nat → Nat → Bool} {t : Nat} (ht : t < 5) : ∀ d u, u < 5 → gf_d a t u ≤ d → d ≤ 4 → fw_P a 5 t u ≤ d := by
  intro d
  induction d with
  | zero =>
    intro u hu h _
    have : u = t := (gz_d0 (a := a)).mp (by omega)
    subst this
    have h1 := fw_le a u u 5
    have h2 : fw_0 a u u = 0 := by
      unfold fw_0
      rw [if_pos rfl]
    omega
  | succ d ih =>
    intro u hu h h4
    rcases (by omega : gf_d a t u ≤ d ∨ gf_d a t u = d + 1) with c | c
    · have := ih u hu c (by omega)
      omega
    · obtain ⟨v, hv, h1, h2⟩ := fd_back c h4
      have i := ih v hv h1 (by omega)
      have j := fw_tri a 5 t u v (by omega)
      have l := fw_le a v u 5
      have l2 : fw_0 a v u ≤ 1 := by
        unfold fw_0
        by_cases e : v = u
        · rw [if_pos e]
          omega
        · rw [if_neg e, if_pos h2]
          exact Nat.le_refl 1
      omega
theorem fw_D {a : Nat → Nat → Bool} {t u : Nat} (ht : t < 5) (hu : u < 5) : fw_P a 5 t u = gf_d a t u := by
  have h1 := fw_low (a := a) 5 (by decide) t u ht hu
  rcases gf_d49 a t u with h | h
  · have h2 := fw_up (a := a) ht (gf_d a t u) u hu (Nat.le_refl _) h
    omega
  · have h2 := fw_9 a 5 t u
    omega
theorem fd_1 {a : Nat → Nat → Bool} {t u : Nat} (ht : t < 5) (hu : u < 5) (hi : a t t = false) : gf_d a t u = 1 ↔ a t u = true := by
  constructor
  · intro h
    obtain ⟨v, hv, h1, h2⟩ := fd_back (d := 0) h (by decide)
    have : v = t := (gz_d0 (a := a)).mp (by omega)
    subst this
    exact h2
  · intro h
    have h1 := fd_st (f := t) ht ht hu h
    rw [fd_0] at h1
    have h2 : gf_d a t u ≠ 0 := fun e => by
      have : u = t := gz_d0.mp e
      subst this
      rw [hi] at h
      cases h
    omega
/-- how many treaties there are -/
theorem fd_all {w : Nat → Nat} (hs : gw_S w) (hi : ∀ t, t < 5 → w (30 + 6 * t) = 0) : gt_n w / 2 = (gw_a w 1 0).toNat + (gw_a w 2 0).toNat + (gw_a w 2 1).toNat + (gw_a w 3 0).toNat + (gw_a w 3 1).toNat + (gw_a w 3 2).toNat + (gw_a w 4 0).toNat + (gw_a w 4 1).toNat + (gw_a w 4 2).toNat + (gw_a w 4 3).toNat := by
  have sy : ∀ t u, t < 5 → u < 5 → (gw_a w t u).toNat = (gw_a w u t).toNat := fun t u ht hu => by
    unfold gw_a
    rw [(hs t u ht hu).2]
  have ir : ∀ t, t < 5 → (gw_a w t t).toNat = 0 := fun t ht => by
    have := hi t ht
    unfold gw_a
    rw [(by omega : 30 + 5 * t + t = 30 + 6 * t), this]
    rfl
  have i0 := ir 0 (by decide)
  have i1 := ir 1 (by decide)
  have i2 := ir 2 (by decide)
  have i3 := ir 3 (by decide)
  have i4 := ir 4 (by decide)
  have s1 := sy 0 1 (by decide) (by decide)
  have s2 := sy 0 2 (by decide) (by decide)
  have s3 := sy 0 3 (by decide) (by decide)
  have s4 := sy 0 4 (by decide) (by decide)
  have s5 := sy 1 2 (by decide) (by decide)
  have s6 := sy 1 3 (by decide) (by decide)
  have s7 := sy 1 4 (by decide) (by decide)
  have s8 := sy 2 3 (by decide) (by decide)
  have s9 := sy 2 4 (by decide) (by decide)
  have s10 := sy 3 4 (by decide) (by decide)
  unfold gt_n gt_c gf_c
  omega
theorem fd_irr {w : Nat → Nat} (hi : ∀ t, t < 5 → w (30 + 6 * t) = 0) {t : Nat} (ht : t < 5) : gw_a w t t = false := by
  have := hi t ht
  unfold gw_a
  rw [(by omega : 30 + 5 * t + t = 30 + 6 * t), this]
  rfl
