/-! PURE: orders: a place is taken by one, and by one alone -/
def rk_c (p : Nat → Bool) : Nat → Nat := gc_s p (fun _ => 1)
theorem rk_T {p : Nat → Bool} {n : Nat} (h : p n = true) : rk_c p (n + 1) = rk_c p n + 1 := (gc_sT (h := fun _ => 1) h).symm
theorem rk_F {p : Nat → Bool} {n : Nat} (h : p n = false) : rk_c p (n + 1) = rk_c p n := (gc_sF (h := fun _ => 1) h).symm
theorem rk_0 (p : Nat → Bool) : rk_c p 0 = 0 := rfl
theorem rk_le {p q : Nat → Bool} : ∀ n, (∀ o, o < n → p o = true → q o = true) → rk_c p n ≤ rk_c q n := by
  intro n
  induction n with
  | zero => exact fun _ => Nat.le_refl _
  | succ n ih =>
    intro h
    have i := ih (fun o ho => h o (by omega))
    cases hp : p n with
    | true =>
      rw [rk_T hp, rk_T (h n (by omega) hp)]
      omega
    | false =>
      rw [rk_F hp]
      cases hq : q n with
      | true =>
        rw [rk_T hq]
        omega
      | false =>
        rw [rk_F hq]
        exact i
theorem rk_lt {p q : Nat → Bool} {r : Nat} (hp : p r = false) (hq : q r = true) : ∀ n, r < n → (∀ o, o < n → p o = true → q o = true) → rk_c p n < rk_c q n := by
  intro n
  induction n with
  | zero => exact fun h => absurd h (Nat.not_lt_zero r)
  | succ n ih =>
    intro hr h
    by_cases e : r = n
    · subst e
      have i := rk_le r (fun o ho => h o (by omega))
      rw [rk_F hp, rk_T hq]
      omega
    · have i := ih (by omega) (fun o ho => h o (by omega))
      cases hpn : p n with
      | true =>
        rw [rk_T hpn, rk_T (h n (by omega) hpn)]
        omega
      | false =>
        rw [rk_F hpn]
        cases hqn : q n with
        | true =>
          rw [rk_T hqn]
          omega
        | false =>
          rw [rk_F hqn]
          exact i
theorem rk_n (p : Nat → Bool) : ∀ n, rk_c p n ≤ n := by
  intro n
  induction n with
  | zero => exact Nat.le_refl 0
  | succ n ih =>
    cases hp : p n with
    | true =>
      rw [rk_T hp]
      omega
    | false =>
      rw [rk_F hp]
      omega
/-- p: who comes ahead of whom, strict, total and transitive -/
def rk_O (p : Nat → Nat → Bool) : Prop := (∀ o, p o o = false) ∧ (∀ o t, o ≠ t → p o t = true ∨ p t o = true) ∧ (∀ o t u, p o t = true → p t u = true → p o u = true)
theorem rk_as {p : Nat → Nat → Bool} (h : rk_O p) {o t : Nat} (h1 : p o t = true) : p t o = false := by
  cases e : p t o with
  | false => rfl
  | true =>
    have := h.2.2 o t o h1 e
    rw [h.1 o] at this
    cases this
theorem rk_on {p : Nat → Nat → Bool} (h : rk_O p) : ∀ n c, c < n → ∃ r, r < n ∧ rk_c (fun o => p o r) n = c := by
  intro n
  induction n with
  | zero => exact fun c hc => absurd hc (Nat.not_lt_zero c)
  | succ n ih =>
    intro c hc
    have e0 : rk_c (fun o => p o n) (n + 1) = rk_c (fun o => p o n) n := rk_F (h.1 n)
    rcases Nat.lt_trichotomy c (rk_c (fun o => p o n) n) with d | d | d
    · have hn := rk_n (fun o => p o n) n
      obtain ⟨r, hr, hrc⟩ := ih c (by omega)
      have ne : r ≠ n := by omega
      have hp : p n r = false := by
        cases e : p n r with
        | false => rfl
        | true =>
          have := rk_le (p := fun o => p o n) (q := fun o => p o r) n (fun o _ ho => h.2.2 o n r ho e)
          omega
      refine ⟨r, by omega, ?_⟩
      rw [rk_F (p := fun o => p o r) hp]
      exact hrc
    · exact ⟨n, by omega, by rw [e0, ← d]⟩
    · obtain ⟨r, hr, hrc⟩ := ih (c - 1) (by omega)
      have hp : p n r = true := by
        cases e : p n r with
        | true => rfl
        | false =>
          have hrn : p r n = true := by
            rcases h.2.1 r n (by omega) with g | g
            · exact g
            · rw [e] at g
              cases g
          have := rk_lt (p := fun o => p o r) (q := fun o => p o n) (r := r) (h.1 r) hrn n hr (fun o _ ho => h.2.2 o r n ho hrn)
          omega
      refine ⟨r, by omega, ?_⟩
      rw [rk_T (p := fun o => p o r) hp]
      omega
/-- who is ranked next comes behind -/
theorem rk_next {p : Nat → Nat → Bool} (h : rk_O p) {n r s : Nat} (hr : r < n) (hs : s < n) (hc : rk_c (fun o => p o s) n = rk_c (fun o => p o r) n + 1) : p r s = true := by
  have ne : r ≠ s := fun e => by
    subst e
    omega
  rcases h.2.1 r s ne with g | g
  · exact g
  · have := rk_lt (p := fun o => p o s) (q := fun o => p o r) (r := s) (h.1 s) g n hs (fun o _ ho => h.2.2 o s r ho g)
    omega
theorem rk_self {p : Nat → Nat → Bool} (h : rk_O p) {n r : Nat} (hr : r < n) : rk_c (fun o => p o r) n < n := by
  have h1 := rk_lt (p := fun o => p o r) (q := fun _ => true) (r := r) (h.1 r) rfl n hr (fun _ _ _ => rfl)
  have h2 := rk_n (fun _ => true) n
  omega
theorem rk_go {c : Nat → Nat} (hc : ∀ i, c i < 100) {x : Nat} (hx : x < 100) : ∀ m i r, i ≤ r → r < i + m → c r = x → ∃ r2, i ≤ r2 ∧ r2 < i + m ∧ c r2 = x ∧ go_f c (nb x) m i = nb r2 := by
  intro m
  induction m with
  | zero => exact fun i r h1 h2 => absurd h2 (by omega)
  | succ m ih =>
    intro i r h1 h2 h3
    have ci := hc i
    by_cases e : c i = x
    · refine ⟨i, Nat.le_refl i, by omega, e, ?_⟩
      rw [go_f, if_pos (by rw [e])]
    · have ne : r ≠ i := fun q => e (q ▸ h3)
      obtain ⟨r2, g1, g2, g3, g4⟩ := ih (i + 1) r (by omega) (by omega) h3
      refine ⟨r2, by omega, by omega, g3, ?_⟩
      rw [go_f, if_neg (fun q => e ((nb_eq (by omega) (by omega)).mp q))]
      exact g4
theorem rk_gon {c : Nat → Nat} {x : Nat} (hx : x < 100) : ∀ m i, (∀ j, i ≤ j → j < i + m → c j < x) → go_f c (nb x) m i = -1 := by
  intro m
  induction m with
  | zero => exact fun i _ => rfl
  | succ m ih =>
    intro i h
    have h1 := h i (Nat.le_refl i) (by omega)
    rw [go_f, if_neg (fun q => by have := (nb_eq (by omega) (by omega)).mp q; omega)]
    exact ih (i + 1) (fun j h2 h3 => h j (by omega) (by omega))
theorem rk_A (w : Nat → Nat) : rk_O (go_A w) := by
  refine ⟨fun o => ?_, fun o t h => ?_, fun o t u h1 h2 => ?_⟩
  · unfold go_A
    exact decide_eq_false (by omega)
  · unfold go_A
    rw [decide_eq_true_eq, decide_eq_true_eq]
    omega
  · unfold go_A at h1 h2 ⊢
    rw [decide_eq_true_eq] at h1 h2 ⊢
    omega
theorem rk_B (w : Nat → Nat) : rk_O (go_B w) := by
  refine ⟨fun o => ?_, fun o t h => ?_, fun o t u h1 h2 => ?_⟩
  · unfold go_B
    exact decide_eq_false (by omega)
  · unfold go_B
    rw [decide_eq_true_eq, decide_eq_true_eq]
    omega
  · unfold go_B at h1 h2 ⊢
    rw [decide_eq_true_eq] at h1 h2 ⊢
    omega
section RK
variable {m c : Nat} {w : Nat → Nat} {σ : sg_S}
theorem rk_cap {p : Nat → Nat → Bool} {n : Nat} (hn : n ≤ 8) (i : Nat) : go_N p n i < 100 := by
  have : rk_c (fun o => p o i) n ≤ n := rk_n _ n
  show rk_c (fun o => p o i) n < 100
  omega
theorem rk_next1 (h : cl_A m w c σ) {i : Nat} (hi : i < w 1) : ∃ r, r < w 1 ∧ f_X7_next (nb i) σ = some (nb r) ∧ rk_c (fun o => go_B w o r) (w 1) = i := by
  obtain ⟨hR, hI, _⟩ := h
  have j1 := hI.2.1
  obtain ⟨r, hr, e⟩ := rk_on (rk_B w) (w 1) i hi
  obtain ⟨r2, g1, g2, g3, g4⟩ := rk_go (c := go_N (go_B w) (w 1)) (rk_cap j1) (x := i) (by omega) (w 1) 0 r (Nat.zero_le r) (by omega) e
  refine ⟨r2, by omega, ?_, g3⟩
  rw [go_next hR.2 (gz_K hI.2), g4]
theorem rk_next2 (h : cl_A m w c σ) : f_X7_next (nb (w 1)) σ = some (-1) := by
  obtain ⟨hR, hI, _⟩ := h
  have j1 := hI.2.1
  rw [go_next hR.2 (gz_K hI.2), rk_gon (c := go_N (go_B w) (w 1)) (x := w 1) (by omega) (w 1) 0 (fun j _ hj => rk_self (rk_B w) (by omega))]
theorem rk_ranked1 (h : cl_A m w c σ) {i : Nat} (hi : i < 5) : ∃ r, r < 5 ∧ f_X7_ranked (nb i) σ = some (nb r) ∧ rk_c (fun o => go_A w o r) 5 = i := by
  obtain ⟨hR, hI, _⟩ := h
  obtain ⟨j1, j2, j3, _⟩ := hI.2
  obtain ⟨r, hr, e⟩ := rk_on (rk_A w) 5 i hi
  obtain ⟨r2, g1, g2, g3, g4⟩ := rk_go (c := go_N (go_A w) 5) (rk_cap (by decide)) (x := i) (by omega) 5 0 r (Nat.zero_le r) (by omega) e
  refine ⟨r2, by omega, ?_, g3⟩
  rw [go_ranked (w := w) (fun t ht => ⟨nb_g1 hR.1 ht, nb_g4 hR.1 ht⟩) (fun t ht => by
    obtain ⟨b1, b2, b3, b4⟩ := j3 t ht
    exact ⟨by omega, by omega⟩), g4]
theorem rk_ranked2 (h : cl_A m w c σ) : f_X7_ranked 5 σ = some (-1) := by
  obtain ⟨hR, hI, _⟩ := h
  obtain ⟨j1, j2, j3, _⟩ := hI.2
  have e := rk_gon (c := go_N (go_A w) 5) (x := 5) (by decide) 5 0 (fun j _ hj => rk_self (rk_A w) (by omega))
  rw [go_ranked (w := w) (fun t ht => ⟨nb_g1 hR.1 ht, nb_g4 hR.1 ht⟩) (fun t ht => by
    obtain ⟨b1, b2, b3, b4⟩ := j3 t ht
    exact ⟨by omega, by omega⟩)]
  exact congrArg some e
end RK
