/-! CREDITS: sums and counts over them; orders of credits and of towns -/
def gc_s (p : Nat → Bool) (h : Nat → Nat) : Nat → Nat
  | 0 => 0
  | c + 1 => gc_s p h c + (if p c = true then h c else 0)
theorem gc_sT {p : Nat → Bool} {h : Nat → Nat} {i : Nat} (e : p i = true) : gc_s p h i + h i = gc_s p h (i + 1) := by
  rw [gc_s, if_pos e]
theorem gc_sF {p : Nat → Bool} {h : Nat → Nat} {i : Nat} (e : p i = false) : gc_s p h i = gc_s p h (i + 1) := by
  rw [gc_s, if_neg (by rw [e]; decide), Nat.add_zero]
theorem gc_sx {p p2 : Nat → Bool} {h h2 : Nat → Nat} : ∀ {n : Nat}, (∀ c, c < n → p c = p2 c ∧ h c = h2 c) → gc_s p h n = gc_s p2 h2 n := by
  intro n
  induction n with
  | zero =>
    intro _
    rfl
  | succ n ih =>
    intro q
    rw [gc_s, gc_s, ih (fun c hc => q c (by omega)), (q n (by omega)).1, (q n (by omega)).2]
def gc_K (w : Nat → Nat) : Prop := w 1 ≤ 8 ∧ ∀ c, c < w 1 → w (55 + 3 * c) < 5 ∧ w (56 + 3 * c) < 2147483648 ∧ w (57 + 3 * c) < 2147483648
def gc_by (w : Nat → Nat) (t : Nat) : Nat := gc_s (fun c => decide (w (55 + 3 * c) = t)) (fun c => w (56 + 3 * c)) (w 1)
def gc_no (w : Nat → Nat) (t : Nat) : Nat := gc_s (fun c => decide (w (55 + 3 * c) = t)) (fun _ => 1) (w 1)
def gc_to (w : Nat → Nat) (t d : Nat) : Nat := gc_s (fun c => decide (w (55 + 3 * c) = t) && decide (w (57 + 3 * c) = d)) (fun c => w (56 + 3 * c)) (w 1)
def gc_du (w : Nat → Nat) (d : Nat) : Nat := gc_s (fun c => decide (w (57 + 3 * c) = d)) (fun c => w (56 + 3 * c)) (w 1)
theorem gc_owedBy {κ : sg_S} {w : Nat → Nat} {t : Nat} (hC : nb_C κ w) (hK : gc_K w) (ht : t < 5) : f_X1_owedBy (nb t) κ = some (nb (gc_by w t)) := by
  have k8 := hK.1
  have L : ∀ m i n, i + m = w 1 → m < n → f_X1_owedBy_L4 (nb t) κ n (nb (gc_s (fun c => decide (w (55 + 3 * c) = t)) (fun c => w (56 + 3 * c)) i)) (nb i) = some (nb (gc_by w t)) := by
    intro m
    induction m with
    | zero =>
      intro i n h1 h2
      obtain ⟨n, rfl⟩ : ∃ k, n = k + 1 := ⟨n - 1, by omega⟩
      have e : i = w 1 := by omega
      rw [f_X1_owedBy_L4, hC.1, if_neg (nb_lt_f (by omega) (by omega)), e]
      try rfl
    | succ m ih =>
      intro i n h1 h2
      obtain ⟨n, rfl⟩ : ∃ k, n = k + 1 := ⟨n - 1, by omega⟩
      have hi : i < w 1 := by omega
      obtain ⟨c1, c2, c3⟩ := hC.2 i hi
      obtain ⟨k1, k2, k3⟩ := hK.2 i hi
      rw [f_X1_owedBy_L4, hC.1, if_pos (nb_lt_t hi (by omega)), nb_grd (nb_i8 (by omega)), nb_t8 (by omega), c1, nb_succ]
      by_cases c : w (55 + 3 * i) = t
      · rw [if_pos (by rw [c]), nb_let, c2, nb_add, gc_sT (p := fun c => decide (w (55 + 3 * c) = t)) (h := fun c => w (56 + 3 * c)) (decide_eq_true c)]
        exact ih (i + 1) n (by omega) (by omega)
      · rw [if_neg (nb_ne c (by omega) (by omega)), gc_sF (p := fun c => decide (w (55 + 3 * c) = t)) (h := fun c => w (56 + 3 * c)) (decide_eq_false c)]
        exact ih (i + 1) n (by omega) (by omega)
  exact L (w 1) 0 1000 (by omega) (by omega)
theorem gc_countOf {κ : sg_S} {w : Nat → Nat} {t : Nat} (hC : nb_C κ w) (hK : gc_K w) (ht : t < 5) : f_X1_countOf (nb t) κ = some (nb (gc_no w t)) := by
  have k8 := hK.1
  have L : ∀ m i n, i + m = w 1 → m < n → f_X1_countOf_L4 (nb t) κ n (nb (gc_s (fun c => decide (w (55 + 3 * c) = t)) (fun _ => 1) i)) (nb i) = some (nb (gc_no w t)) := by
    intro m
    induction m with
    | zero =>
      intro i n h1 h2
      obtain ⟨n, rfl⟩ : ∃ k, n = k + 1 := ⟨n - 1, by omega⟩
      have e : i = w 1 := by omega
      rw [f_X1_countOf_L4, hC.1, if_neg (nb_lt_f (by omega) (by omega)), e]
      try rfl
    | succ m ih =>
      intro i n h1 h2
      obtain ⟨n, rfl⟩ : ∃ k, n = k + 1 := ⟨n - 1, by omega⟩
      have hi : i < w 1 := by omega
      obtain ⟨c1, c2, c3⟩ := hC.2 i hi
      obtain ⟨k1, k2, k3⟩ := hK.2 i hi
      rw [f_X1_countOf_L4, hC.1, if_pos (nb_lt_t hi (by omega)), nb_grd (nb_i8 (by omega)), nb_t8 (by omega), c1, nb_succ, nb_succ]
      by_cases c : w (55 + 3 * i) = t
      · rw [if_pos (by rw [c]), gc_sT (p := fun c => decide (w (55 + 3 * c) = t)) (h := fun _ => 1) (decide_eq_true c)]
        exact ih (i + 1) n (by omega) (by omega)
      · rw [if_neg (nb_ne c (by omega) (by omega)), gc_sF (p := fun c => decide (w (55 + 3 * c) = t)) (h := fun _ => 1) (decide_eq_false c)]
        exact ih (i + 1) n (by omega) (by omega)
  exact L (w 1) 0 1000 (by omega) (by omega)
theorem gc_owedIn {κ : sg_S} {w : Nat → Nat} {t d : Nat} (hC : nb_C κ w) (hK : gc_K w) (ht : t < 5) (hd : d < 2147483648) : f_X1_owedIn (nb t) (nb d) κ = some (nb (gc_to w t d)) := by
  have k8 := hK.1
  have L : ∀ m i n, i + m = w 1 → m < n → f_X1_owedIn_L5 (nb t) (nb d) κ n (nb (gc_s (fun c => decide (w (55 + 3 * c) = t) && decide (w (57 + 3 * c) = d)) (fun c => w (56 + 3 * c)) i)) (nb i) = some (nb (gc_to w t d)) := by
    intro m
    induction m with
    | zero =>
      intro i n h1 h2
      obtain ⟨n, rfl⟩ : ∃ k, n = k + 1 := ⟨n - 1, by omega⟩
      have e : i = w 1 := by omega
      rw [f_X1_owedIn_L5, hC.1, if_neg (nb_lt_f (by omega) (by omega)), e]
      try rfl
    | succ m ih =>
      intro i n h1 h2
      obtain ⟨n, rfl⟩ : ∃ k, n = k + 1 := ⟨n - 1, by omega⟩
      have hi : i < w 1 := by omega
      obtain ⟨c1, c2, c3⟩ := hC.2 i hi
      obtain ⟨k1, k2, k3⟩ := hK.2 i hi
      have no : (decide (w (55 + 3 * i) = t) && decide (w (57 + 3 * i) = d)) = false → gc_s (fun c => decide (w (55 + 3 * c) = t) && decide (w (57 + 3 * c) = d)) (fun c => w (56 + 3 * c)) i = gc_s (fun c => decide (w (55 + 3 * c) = t) && decide (w (57 + 3 * c) = d)) (fun c => w (56 + 3 * c)) (i + 1) := fun q => gc_sF (p := fun c => decide (w (55 + 3 * c) = t) && decide (w (57 + 3 * c) = d)) (h := fun c => w (56 + 3 * c)) q
      rw [f_X1_owedIn_L5, hC.1, if_pos (nb_lt_t hi (by omega)), nb_grd (nb_i8 (by omega)), nb_t8 (by omega), c1, c3, nb_succ]
      by_cases c : w (55 + 3 * i) = t
      · rw [if_pos (by rw [c])]
        by_cases c4 : w (57 + 3 * i) = d
        · rw [if_pos (by rw [c4]), nb_let, c2, nb_add, gc_sT (p := fun c => decide (w (55 + 3 * c) = t) && decide (w (57 + 3 * c) = d)) (h := fun c => w (56 + 3 * c)) (by simp [c, c4])]
          exact ih (i + 1) n (by omega) (by omega)
        · rw [if_neg (nb_ne c4 (by omega) (by omega)), no (by simp [c4])]
          exact ih (i + 1) n (by omega) (by omega)
      · rw [if_neg (nb_ne c (by omega) (by omega)), no (by simp [c])]
        exact ih (i + 1) n (by omega) (by omega)
  exact L (w 1) 0 1000 (by omega) (by omega)
/-! the reference's -/
theorem gc_vno {τ : sg_S} {w : Nat → Nat} {t : Nat} (hV : nb_V (τ 1) w) (hK : gc_K w) (ht : t < 5) : f_X8_creditsOf (nb t) τ = some (nb (gc_no w t)) := by
  have k8 := hK.1
  have L : ∀ m i n, i + m = w 1 → m < n → f_X8_creditsOf_L4 (nb t) τ n (nb (gc_s (fun c => decide (w (55 + 3 * c) = t)) (fun _ => 1) i)) (nb i) = some (nb (gc_no w t)) := by
    intro m
    induction m with
    | zero =>
      intro i n h1 h2
      obtain ⟨n, rfl⟩ : ∃ k, n = k + 1 := ⟨n - 1, by omega⟩
      have e : i = w 1 := by omega
      rw [f_X8_creditsOf_L4, hV 1 (by decide), if_neg (nb_lt_f (by omega) (by omega)), e]
      try rfl
    | succ m ih =>
      intro i n h1 h2
      obtain ⟨n, rfl⟩ : ∃ k, n = k + 1 := ⟨n - 1, by omega⟩
      have hi : i < w 1 := by omega
      obtain ⟨k1, k2, k3⟩ := hK.2 i hi
      rw [f_X8_creditsOf_L4, hV 1 (by decide), if_pos (nb_lt_t hi (by omega)), nb_in0, nb_bnd, nb_grd (nb_i79 (by omega)), nb_t79 (by omega), hV (55 + 3 * i) (by omega), nb_succ, nb_succ]
      by_cases c : w (55 + 3 * i) = t
      · rw [if_pos (by rw [c]), nb_let, gc_sT (p := fun c => decide (w (55 + 3 * c) = t)) (h := fun _ => 1) (decide_eq_true c)]
        exact ih (i + 1) n (by omega) (by omega)
      · rw [if_neg (nb_ne c (by omega) (by omega)), nb_let, Int32.add_zero, gc_sF (p := fun c => decide (w (55 + 3 * c) = t)) (h := fun _ => 1) (decide_eq_false c)]
        exact ih (i + 1) n (by omega) (by omega)
  exact L (w 1) 0 1000 (by omega) (by omega)
theorem gc_vby {τ : sg_S} {w : Nat → Nat} {t : Nat} (hV : nb_V (τ 1) w) (hK : gc_K w) (ht : t < 5) : f_X8_owes (nb t) τ = some (nb (gc_by w t)) := by
  have k8 := hK.1
  have L : ∀ m i n, i + m = w 1 → m < n → f_X8_owes_L13 (nb t) τ n (nb (gc_s (fun c => decide (w (55 + 3 * c) = t)) (fun c => w (56 + 3 * c)) i)) (nb i) = some (nb (gc_by w t)) := by
    intro m
    induction m with
    | zero =>
      intro i n h1 h2
      obtain ⟨n, rfl⟩ : ∃ k, n = k + 1 := ⟨n - 1, by omega⟩
      have e : i = w 1 := by omega
      rw [f_X8_owes_L13, hV 1 (by decide), if_neg (nb_lt_f (by omega) (by omega)), e]
      try rfl
    | succ m ih =>
      intro i n h1 h2
      obtain ⟨n, rfl⟩ : ∃ k, n = k + 1 := ⟨n - 1, by omega⟩
      have hi : i < w 1 := by omega
      obtain ⟨k1, k2, k3⟩ := hK.2 i hi
      rw [f_X8_owes_L13, hV 1 (by decide), if_pos (nb_lt_t hi (by omega)), nb_in0, nb_bnd, nb_grd (nb_i79 (by omega)), nb_t79 (by omega), hV (55 + 3 * i) (by omega), nb_succ]
      by_cases c : w (55 + 3 * i) = t
      · rw [if_pos (by rw [c]), nb_in1, nb_bnd, nb_grd (nb_i79 (by omega)), nb_t79 (by omega), hV (56 + 3 * i) (by omega), nb_let, nb_add, gc_sT (p := fun c => decide (w (55 + 3 * c) = t)) (h := fun c => w (56 + 3 * c)) (decide_eq_true c)]
        exact ih (i + 1) n (by omega) (by omega)
      · rw [if_neg (nb_ne c (by omega) (by omega)), nb_let, Int32.add_zero, gc_sF (p := fun c => decide (w (55 + 3 * c) = t)) (h := fun c => w (56 + 3 * c)) (decide_eq_false c)]
        exact ih (i + 1) n (by omega) (by omega)
  unfold f_X8_owes
  rw [(nb_townE ht).2, nb_bnd, if_neg nb_10]
  exact L (w 1) 0 1000 (by omega) (by omega)
theorem gc_vdu {τ : sg_S} {w : Nat → Nat} {x : Nat} (hV : nb_V (τ 1) w) (hK : gc_K w) (hx : w 0 + x < 2147483648) : f_X8_due_L17 (nb x) τ 1000 0 0 = some (nb (gc_du w (w 0 + x))) := by
  have k8 := hK.1
  have L : ∀ m i n, i + m = w 1 → m < n → f_X8_due_L17 (nb x) τ n (nb (gc_s (fun c => decide (w (57 + 3 * c) = w 0 + x)) (fun c => w (56 + 3 * c)) i)) (nb i) = some (nb (gc_du w (w 0 + x))) := by
    intro m
    induction m with
    | zero =>
      intro i n h1 h2
      obtain ⟨n, rfl⟩ : ∃ k, n = k + 1 := ⟨n - 1, by omega⟩
      have e : i = w 1 := by omega
      rw [f_X8_due_L17, hV 1 (by decide), if_neg (nb_lt_f (by omega) (by omega)), e]
      try rfl
    | succ m ih =>
      intro i n h1 h2
      obtain ⟨n, rfl⟩ : ∃ k, n = k + 1 := ⟨n - 1, by omega⟩
      have hi : i < w 1 := by omega
      obtain ⟨k1, k2, k3⟩ := hK.2 i hi
      rw [f_X8_due_L17, hV 1 (by decide), if_pos (nb_lt_t hi (by omega)), nb_in2, nb_bnd, nb_grd (nb_i79 (by omega)), nb_t79 (by omega), hV (57 + 3 * i) (by omega), hV 0 (by decide), nb_add (w 0) x, nb_succ]
      by_cases c : w (57 + 3 * i) = w 0 + x
      · rw [if_pos (by rw [c]), nb_in1, nb_bnd, nb_grd (nb_i79 (by omega)), nb_t79 (by omega), hV (56 + 3 * i) (by omega), nb_let, nb_add, gc_sT (p := fun c => decide (w (57 + 3 * c) = w 0 + x)) (h := fun c => w (56 + 3 * c)) (decide_eq_true c)]
        exact ih (i + 1) n (by omega) (by omega)
      · rw [if_neg (nb_ne c (by omega) (by omega)), nb_let, Int32.add_zero, gc_sF (p := fun c => decide (w (57 + 3 * c) = w 0 + x)) (h := fun c => w (56 + 3 * c)) (decide_eq_false c)]
        exact ih (i + 1) n (by omega) (by omega)
  exact L (w 1) 0 1000 (by omega) (by omega)
/-- towns together; months together -/
theorem gc_towns {w : Nat → Nat} (hK : gc_K w) (d : Nat) : gc_to w 0 d + gc_to w 1 d + gc_to w 2 d + gc_to w 3 d + gc_to w 4 d = gc_du w d := by
  have k : ∀ n, n ≤ w 1 → gc_s (fun c => decide (w (55 + 3 * c) = 0) && decide (w (57 + 3 * c) = d)) (fun c => w (56 + 3 * c)) n + gc_s (fun c => decide (w (55 + 3 * c) = 1) && decide (w (57 + 3 * c) = d)) (fun c => w (56 + 3 * c)) n + gc_s (fun c => decide (w (55 + 3 * c) = 2) && decide (w (57 + 3 * c) = d)) (fun c => w (56 + 3 * c)) n + gc_s (fun c => decide (w (55 + 3 * c) = 3) && decide (w (57 + 3 * c) = d)) (fun c => w (56 + 3 * c)) n + gc_s (fun c => decide (w (55 + 3 * c) = 4) && decide (w (57 + 3 * c) = d)) (fun c => w (56 + 3 * c)) n = gc_s (fun c => decide (w (57 + 3 * c) = d)) (fun c => w (56 + 3 * c)) n := by
    intro n
    induction n with
    | zero => intro _; rfl
    | succ n ih =>
      intro h
      have i := ih (by omega)
      have k1 := (hK.2 n (by omega)).1
      simp only [gc_s]
      by_cases c : w (57 + 3 * n) = d
      · rcases (by omega : w (55 + 3 * n) = 0 ∨ w (55 + 3 * n) = 1 ∨ w (55 + 3 * n) = 2 ∨ w (55 + 3 * n) = 3 ∨ w (55 + 3 * n) = 4) with e | e | e | e | e <;> simp [c, e] <;> omega
      · simp [c]
        omega
  exact k (w 1) (Nat.le_refl _)
theorem gc_monthsum {w : Nat → Nat} {m t : Nat} (hd : ∀ c, c < w 1 → m ≤ w (57 + 3 * c) ∧ w (57 + 3 * c) ≤ m + 6) : gc_to w t m + gc_to w t (m + 1) + gc_to w t (m + 2) + gc_to w t (m + 3) + gc_to w t (m + 4) + gc_to w t (m + 5) + gc_to w t (m + 6) = gc_by w t := by
  have k : ∀ n, n ≤ w 1 → gc_s (fun c => decide (w (55 + 3 * c) = t) && decide (w (57 + 3 * c) = m)) (fun c => w (56 + 3 * c)) n + gc_s (fun c => decide (w (55 + 3 * c) = t) && decide (w (57 + 3 * c) = m + 1)) (fun c => w (56 + 3 * c)) n + gc_s (fun c => decide (w (55 + 3 * c) = t) && decide (w (57 + 3 * c) = m + 2)) (fun c => w (56 + 3 * c)) n + gc_s (fun c => decide (w (55 + 3 * c) = t) && decide (w (57 + 3 * c) = m + 3)) (fun c => w (56 + 3 * c)) n + gc_s (fun c => decide (w (55 + 3 * c) = t) && decide (w (57 + 3 * c) = m + 4)) (fun c => w (56 + 3 * c)) n + gc_s (fun c => decide (w (55 + 3 * c) = t) && decide (w (57 + 3 * c) = m + 5)) (fun c => w (56 + 3 * c)) n + gc_s (fun c => decide (w (55 + 3 * c) = t) && decide (w (57 + 3 * c) = m + 6)) (fun c => w (56 + 3 * c)) n = gc_s (fun c => decide (w (55 + 3 * c) = t)) (fun c => w (56 + 3 * c)) n := by
    intro n
    induction n with
    | zero => intro _; rfl
    | succ n ih =>
      intro h
      have i := ih (by omega)
      have k1 := hd n (by omega)
      simp only [gc_s]
      by_cases c : w (55 + 3 * n) = t
      · rcases (by omega : w (57 + 3 * n) = m ∨ w (57 + 3 * n) = m + 1 ∨ w (57 + 3 * n) = m + 2 ∨ w (57 + 3 * n) = m + 3 ∨ w (57 + 3 * n) = m + 4 ∨ w (57 + 3 * n) = m + 5 ∨ w (57 + 3 * n) = m + 6) with e | e | e | e | e | e | e <;> simp [c, e] <;> omega
      · simp [c]
        omega
  exact k (w 1) (Nat.le_refl _)
theorem gc_byMonths {ρ : sg_S} {w : Nat → Nat} {t : Nat} (hC : nb_C (sg_e1 8 ρ) w) (h0 : ρ 0 0 = nb (w 0)) (hK : gc_K w) (ht : t < 5) (hb : w 0 + 6 < 2147483648) (hd : ∀ c, c < w 1 → w 0 ≤ w (57 + 3 * c) ∧ w (57 + 3 * c) ≤ w 0 + 6) : f_X3_owedByMonths (nb t) ρ = some (nb (gc_by w t)) := by
  have st : ∀ i n s, i ≤ 6 → f_X3_owedByMonths_L4 (nb t) ρ (n + 1) (nb s) (nb i) = f_X3_owedByMonths_L4 (nb t) ρ n (nb (s + gc_to w t (w 0 + i))) (nb (i + 1)) := by
    intro i n s hi
    rw [f_X3_owedByMonths_L4, if_pos (show nb i ≤ (6 : Int32) from nb_le_t (b := 6) hi (by decide)), h0, nb_add, gc_owedIn hC hK ht (by omega), nb_bnd, nb_let, nb_add, nb_succ]
  have en : ∀ n s, f_X3_owedByMonths_L4 (nb t) ρ (n + 1) (nb s) (nb 7) = some (nb s) := by
    intro n s
    rw [f_X3_owedByMonths_L4, if_neg (by decide)]
  have e := gc_monthsum (t := t) hd
  unfold f_X3_owedByMonths
  refine (st 0 999 0 (by decide)).trans ((st 1 998 _ (by decide)).trans ((st 2 997 _ (by decide)).trans ((st 3 996 _ (by decide)).trans ((st 4 995 _ (by decide)).trans ((st 5 994 _ (by decide)).trans ((st 6 993 _ (by decide)).trans ((en 992 _).trans ?_)))))))
  rw [← e]
  simp
