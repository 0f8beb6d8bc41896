/-! PURE BASE: numbers of the machine that are small natural ones; what the tests of loops say -/
def nb (n : Nat) : Int32 := Int32.ofNat n
theorem nb_tn {a : Nat} (h : a < 2147483648) : (nb a).toNatClampNeg = a := Int32.toNatClampNeg_ofNat_of_lt (by omega)
theorem nb_ti {a : Nat} (h : a < 2147483648) : (nb a).toInt = (a : Int) := Int32.toInt_ofNat_of_lt (by omega)
theorem nb_lt {a b : Nat} (ha : a < 2147483648) (hb : b < 2147483648) : nb a < nb b ↔ a < b := Int32.ofNat_lt_iff_lt (by omega) (by omega)
theorem nb_le {a b : Nat} (ha : a < 2147483648) (hb : b < 2147483648) : nb a ≤ nb b ↔ a ≤ b := Int32.ofNat_le_iff_le (by omega) (by omega)
theorem nb_eq {a b : Nat} (ha : a < 2147483648) (hb : b < 2147483648) : nb a = nb b ↔ a = b := by
  constructor
  · intro h
    have h2 := congrArg Int32.toNatClampNeg h
    rw [nb_tn ha, nb_tn hb] at h2
    exact h2
  · intro h
    rw [h]
theorem nb_add (a b : Nat) : nb a + nb b = nb (a + b) := (Int32.ofNat_add a b).symm
theorem nb_mul (a b : Nat) : nb a * nb b = nb (a * b) := (Int32.ofNat_mul a b).symm
theorem nb_sub {a b : Nat} (h : b ≤ a) : nb a - nb b = nb (a - b) := (Int32.ofNat_sub a b h).symm
theorem nb_div {a b : Nat} (ha : a < 2147483648) (hb : b < 2147483648) : nb a / nb b = nb (a / b) := (Int32.ofNat_div (by omega) (by omega)).symm
theorem nb_succ (a : Nat) : nb a + 1 = nb (a + 1) := nb_add a 1
theorem nb_in {a k : Nat} (h : a < k) (hk : k < 2147483648) : sg_in (nb a) k = true := by
  unfold sg_in
  rw [nb_ti (by omega)]
  simp only [Bool.and_eq_true, decide_eq_true_eq]
  omega
theorem nb_lt_t {a b : Nat} (h : a < b) (hb : b < 2147483648) : nb a < nb b := (nb_lt (by omega) hb).mpr h
theorem nb_lt_f {a b : Nat} (h : b ≤ a) (ha : a < 2147483648) : ¬ (nb a < nb b) := fun q => by
  have := (nb_lt ha (by omega)).mp q
  omega
theorem nb_le_t {a b : Nat} (h : a ≤ b) (hb : b < 2147483648) : nb a ≤ nb b := (nb_le (by omega) hb).mpr h
theorem nb_le_f {a b : Nat} (h : b < a) (ha : a < 2147483648) : ¬ (nb a ≤ nb b) := fun q => by
  have := (nb_le ha (by omega)).mp q
  omega
theorem nb_ne {a b : Nat} (h : a ≠ b) (ha : a < 2147483648) (hb : b < 2147483648) : nb a ≠ nb b := fun q => h ((nb_eq ha hb).mp q)
theorem nb_of {x : Int32} (h0 : 0 ≤ x) : ∃ a : Nat, a < 2147483648 ∧ x = nb a := ⟨x.toNatClampNeg, by have := Int32.toNatClampNeg_lt x; omega, (Int32.ofNat_toNatClampNeg x h0).symm⟩
theorem nb_any (x : Int32) : ∃ a : Nat, x = nb a := ⟨x.toBitVec.toNat, by
  unfold nb
  exact (Int32.ofNat_bitVecToNat x.toBitVec).symm⟩
theorem nb_of_lt {x : Int32} {k : Nat} (hk : k < 2147483648) (h0 : 0 ≤ x) (h : x < nb k) : ∃ a : Nat, a < k ∧ x = nb a := by
  obtain ⟨a, ha, e⟩ := nb_of h0
  rw [e] at h
  exact ⟨a, (nb_lt ha hk).mp h, e⟩
theorem nb_of_le {x : Int32} {k : Nat} (hk : k < 2147483648) (h0 : 0 ≤ x) (h : x ≤ nb k) : ∃ a : Nat, a ≤ k ∧ x = nb a := by
  obtain ⟨a, ha, e⟩ := nb_of h0
  rw [e] at h
  exact ⟨a, (nb_le ha hk).mp h, e⟩
theorem nb_nle {x y : Int32} (h : ¬ x ≤ y) : y < x := Int32.not_le.mp h
theorem nb_nlt {x y : Int32} (h : ¬ x < y) : y ≤ x := Int32.not_lt.mp h
theorem nb_0le {t : Nat} (h : t < 2147483648) : (0 : Int32) ≤ nb t := nb_le_t (a := 0) (Nat.zero_le t) h
theorem nb_nneg {t : Nat} (h : t < 2147483648) : ¬ (nb t < (0 : Int32)) := nb_lt_f (b := 0) (Nat.zero_le t) h
theorem nb_pos {t : Nat} (h0 : 0 < t) (h : t < 2147483648) : (0 : Int32) < nb t := nb_lt_t (a := 0) h0 h
theorem nb_npos : ¬ ((0 : Int32) < nb 0) := by decide
theorem nb_lt5 {i : Nat} (h : i < 5) : nb i < (5 : Int32) := nb_lt_t (b := 5) h (by decide)
/-- towns, hours, months: what they pass is a small number, or both say no -/
theorem nb_town (x : Int32) : (∃ t : Nat, t < 5 ∧ x = nb t ∧ f_X7_isTown x = some 1 ∧ f_X8_isTown x = some 1) ∨ (f_X7_isTown x = some 0 ∧ f_X8_isTown x = some 0) := by
  unfold f_X7_isTown f_X8_isTown f_X8_isIn
  by_cases h0 : 0 ≤ x
  · by_cases h5 : x < 5
    · left
      obtain ⟨t, ht, e⟩ := nb_of_lt (k := 5) (by decide) h0 h5
      refine ⟨t, ht, e, ?_, ?_⟩
      · rw [if_pos h0, if_pos h5]
      · have h4 : x ≤ 4 := by
          rw [e]
          exact nb_le_t (b := 4) (by omega) (by decide)
        rw [if_pos h0, if_pos h4]
        try rfl
    · right
      have h4 : ¬ x ≤ 4 := by
        intro h4
        obtain ⟨t, ht, e⟩ := nb_of_le (k := 4) (by decide) h0 h4
        exact h5 (by
          rw [e]
          exact nb_lt_t (b := 5) (by omega) (by decide))
      refine ⟨?_, ?_⟩
      · rw [if_pos h0, if_neg h5]
      · rw [if_pos h0, if_neg h4]
        try rfl
  · right
    refine ⟨?_, ?_⟩
    · rw [if_neg h0]
    · rw [if_neg h0]
      try rfl
theorem nb_townE {t : Nat} (h : t < 5) : f_X7_isTown (nb t) = some 1 ∧ f_X8_isTown (nb t) = some 1 := by
  rcases nb_town (nb t) with ⟨_, _, _, a, b⟩ | ⟨a, _⟩
  · exact ⟨a, b⟩
  · exfalso
    unfold f_X7_isTown at a
    rw [if_pos (nb_0le (by omega)), if_pos (nb_lt5 h)] at a
    exact absurd a (by decide)
theorem nb_from (x : Int32) (lo hi : Nat) (hlo : lo ≤ hi) (hhi : hi < 2147483648) : (∃ t : Nat, lo ≤ t ∧ t ≤ hi ∧ x = nb t) ∨ ¬ (nb lo ≤ x ∧ x ≤ nb hi) := by
  by_cases h : nb lo ≤ x ∧ x ≤ nb hi
  · left
    have h0 : (0 : Int32) ≤ x := Int32.le_trans (nb_0le (t := lo) (by omega)) h.1
    obtain ⟨t, ht, e⟩ := nb_of_le hhi h0 h.2
    refine ⟨t, ?_, ht, e⟩
    have h1 := h.1
    rw [e] at h1
    exact (nb_le (by omega) (by omega)).mp h1
  · exact Or.inr h
theorem nb_isIn (x : Int32) (lo hi : Nat) (hlo : lo ≤ hi) (hhi : hi < 2147483648) : (∃ t : Nat, lo ≤ t ∧ t ≤ hi ∧ x = nb t ∧ f_X8_isIn x (nb lo) (nb hi) = some 1) ∨ (¬ (nb lo ≤ x ∧ x ≤ nb hi) ∧ f_X8_isIn x (nb lo) (nb hi) = some 0) := by
  rcases nb_from x lo hi hlo hhi with ⟨t, h1, h2, e⟩ | h
  · left
    refine ⟨t, h1, h2, e, ?_⟩
    unfold f_X8_isIn
    rw [e, if_pos (nb_le_t h1 (by omega)), if_pos (nb_le_t h2 hhi)]
  · right
    refine ⟨h, ?_⟩
    unfold f_X8_isIn
    by_cases h0 : nb lo ≤ x
    · rw [if_pos h0, if_neg (fun q => h ⟨h0, q⟩)]
    · rw [if_neg h0]
theorem nb_hours (x : Int32) : (∃ t : Nat, 1 ≤ t ∧ t ≤ 20 ∧ x = nb t ∧ f_X7_isHours x = some 1 ∧ f_X8_isIn x 1 20 = some 1) ∨ (f_X7_isHours x = some 0 ∧ f_X8_isIn x 1 20 = some 0) := by
  have e : f_X7_isHours x = f_X8_isIn x 1 20 := rfl
  rw [e]
  rcases nb_isIn x 1 20 (by decide) (by decide) with ⟨t, a, b, c, d⟩ | ⟨_, d⟩
  · exact Or.inl ⟨t, a, b, c, d, d⟩
  · exact Or.inr ⟨d, d⟩
theorem nb_months (x : Int32) : (∃ t : Nat, 1 ≤ t ∧ t ≤ 6 ∧ x = nb t ∧ f_X7_isMonths x = some 1 ∧ f_X8_isIn x 1 6 = some 1) ∨ (f_X7_isMonths x = some 0 ∧ f_X8_isIn x 1 6 = some 0) := by
  have e : f_X7_isMonths x = f_X8_isIn x 1 6 := rfl
  rw [e]
  rcases nb_isIn x 1 6 (by decide) (by decide) with ⟨t, a, b, c, d⟩ | ⟨_, d⟩
  · exact Or.inl ⟨t, a, b, c, d, d⟩
  · exact Or.inr ⟨d, d⟩
theorem nb_beq {q p : Nat} (h : q ≠ p) : Nat.beq q p = false := by
  cases hc : Nat.beq q p with
  | false => rfl
  | true => exact absurd (Nat.eq_of_beq_eq_true hc) h
/-- states: what stands where after a write -/
theorem nb_up (σ : sg_S) (p k : Nat) (v : Int32) (q j : Nat) : sg_up σ p k v q j = if q = p ∧ j = k then v else σ q j := by
  unfold sg_up
  by_cases h : q = p
  · subst h
    rw [Nat.beq_refl]
    show upd (σ q) k v j = _
    unfold upd
    by_cases h2 : j = k
    · rw [if_pos h2, if_pos ⟨rfl, h2⟩]
    · rw [if_neg h2, if_neg (fun c => h2 c.2)]
  · have hb : Nat.beq q p = false := nb_beq h
    rw [hb, if_neg (fun c => h c.1)]
    try rfl
theorem nb_ur (σ : sg_S) (p : Nat) (f : Nat → Int32) (q j : Nat) : sg_ur σ p f q j = if q = p then f j else σ q j := by
  unfold sg_ur
  by_cases h : q = p
  · subst h
    rw [Nat.beq_refl, if_pos rfl]
    try rfl
  · have hb : Nat.beq q p = false := nb_beq h
    rw [hb, if_neg h]
    try rfl
theorem nb_m1 (o n : Nat) (σ τ : sg_S) (q j : Nat) : sg_m1 o n σ τ q j = if o ≤ q ∧ q < o + n then τ (q - o) j else σ q j := by
  unfold sg_m1
  by_cases h : o ≤ q
  · have e1 : Nat.ble o q = true := Nat.ble_eq.mpr h
    by_cases h2 : q < o + n
    · have e2 : Nat.blt q (o + n) = true := Nat.blt_eq.mpr h2
      rw [e1, e2, if_pos ⟨h, h2⟩]
      try rfl
    · have e2 : Nat.blt q (o + n) = false := by
        cases hb : Nat.blt q (o + n) with
        | false => rfl
        | true => exact absurd (Nat.blt_eq.mp hb) h2
      rw [e1, e2, if_neg (fun c => h2 c.2)]
      try rfl
  · have e1 : Nat.ble o q = false := by
      cases hb : Nat.ble o q with
      | false => rfl
      | true => exact absurd (Nat.ble_eq.mp hb) h
    rw [e1, if_neg (fun c => h c.1)]
    try rfl
theorem nb_e1 {α : Type} (o : Nat) (f : Nat → α) (q : Nat) : sg_e1 o f q = f (o + q) := rfl
theorem nb_blt (a b : Nat) : Nat.blt a b = decide (a < b) := by
  cases h : Nat.blt a b with
  | true => exact (decide_eq_true (Nat.blt_eq.mp h)).symm
  | false =>
    symm
    apply decide_eq_false
    intro c
    rw [Nat.blt_eq.mpr c] at h
    exact Bool.noConfusion h
theorem nb_ble (a b : Nat) : Nat.ble a b = decide (a ≤ b) := by
  cases h : Nat.ble a b with
  | true => exact (decide_eq_true (Nat.ble_eq.mp h)).symm
  | false =>
    symm
    apply decide_eq_false
    intro c
    rw [Nat.ble_eq.mpr c] at h
    exact Bool.noConfusion h
theorem nb_e2 {α : Type} (n o o2 : Nat) (f : Nat → α) (q : Nat) : sg_e2 n o o2 f q = if q < n then f (o + q) else f (o2 + (q - n)) := by
  show cond (Nat.blt q n) _ _ = _
  rw [nb_blt]
  by_cases h : q < n
  · rw [if_pos h, decide_eq_true h]
    try rfl
  · rw [if_neg h, decide_eq_false h]
    try rfl
theorem nb_m2 (o n o2 n2 : Nat) (σ τ : sg_S) (q j : Nat) : sg_m2 o n o2 n2 σ τ q j = if o ≤ q ∧ q < o + n then τ (q - o) j else if o2 ≤ q ∧ q < o2 + n2 then τ (n + (q - o2)) j else σ q j := by
  unfold sg_m2
  rw [nb_ble, nb_ble, nb_blt, nb_blt]
  by_cases h : o ≤ q ∧ q < o + n
  · rw [if_pos h, decide_eq_true h.1, decide_eq_true h.2]
    try rfl
  · rw [if_neg h]
    have e1 : (decide (o ≤ q) && decide (q < o + n)) = false := by
      rw [← Bool.decide_and]
      exact decide_eq_false h
    rw [e1]
    by_cases h2 : o2 ≤ q ∧ q < o2 + n2
    · rw [if_pos h2, decide_eq_true h2.1, decide_eq_true h2.2]
      try rfl
    · rw [if_neg h2]
      have e2 : (decide (o2 ≤ q) && decide (q < o2 + n2)) = false := by
        rw [← Bool.decide_and]
        exact decide_eq_false h2
      rw [e2]
      try rfl
theorem nb_upE (σ : sg_S) (p k : Nat) (v : Int32) : sg_up σ p k v p k = v := by rw [nb_up, if_pos ⟨rfl, rfl⟩]
theorem nb_cpy (f g : Nat → Int32) (n k : Nat) : va_cpy f g 0 0 n k = if k < n then f k else g k := by
  unfold va_cpy
  by_cases h : k < n
  · rw [if_pos h, if_pos ⟨Nat.zero_le k, by omega⟩]
    simp
  · rw [if_neg h, if_neg (by omega)]
/-- the realm of the class, and the row of the reference, hold the numbers w -/
def nb_mask (w : Nat → Nat) (t : Nat) : Nat := w (30 + 5 * t) + 2 * w (30 + 5 * t + 1) + 4 * w (30 + 5 * t + 2) + 8 * w (30 + 5 * t + 3) + 16 * w (30 + 5 * t + 4)
def nb_lk (p k j : Nat) : Prop := (p = 0 ∧ k = 0 ∧ j = 0) ∨ (p = 1 ∧ k < 5 ∧ j = 10 + 4 * k) ∨ (p = 2 ∧ k < 5 ∧ j = 11 + 4 * k) ∨ (p = 3 ∧ k < 5 ∧ j = 12 + 4 * k) ∨ (p = 4 ∧ k < 5 ∧ j = 13 + 4 * k) ∨ (p = 12 ∧ k = 0 ∧ j = 2) ∨ (p = 12 ∧ k = 1 ∧ j = 3) ∨ (p = 12 ∧ 3 ≤ k ∧ k < 8 ∧ j = k + 1)
/-- all of the realm but its credits -/
def nb_N (ρ : sg_S) (w : Nat → Nat) : Prop := (∀ p k j, nb_lk p k j → ρ p k = nb (w j)) ∧ (∀ t, t < 5 → ρ 6 t = nb (nb_mask w t)) ∧ ρ 12 2 = nb (4 * w 9)
def nb_C (κ : sg_S) (w : Nat → Nat) : Prop := κ 0 0 = nb (w 1) ∧ ∀ c, c < w 1 → κ 1 c = nb (w (55 + 3 * c)) ∧ κ 2 c = nb (w (56 + 3 * c)) ∧ κ 3 c = nb (w (57 + 3 * c))
def nb_R (ρ : sg_S) (w : Nat → Nat) : Prop := nb_N ρ w ∧ nb_C (sg_e1 8 ρ) w
def gw_u (w : Nat → Nat) (j x : Nat) : Nat → Nat := fun k => if k = j then x else w k
theorem gw_at (w : Nat → Nat) (j x : Nat) : gw_u w j x j = x := if_pos rfl
theorem gw_ne (w : Nat → Nat) {j k : Nat} (x : Nat) (h : k ≠ j) : gw_u w j x k = w k := if_neg h
def nb_V (v : Nat → Int32) (w : Nat → Nat) : Prop := ∀ k, k < 79 → v k = nb (w k)
def nb_owed (w : Nat → Nat) (t : Nat) : Nat → Nat
  | 0 => 0
  | c + 1 => nb_owed w t c + (if w (55 + 3 * c) = t then w (56 + 3 * c) else 0)
def nb_I (m : Nat) (w : Nat → Nat) : Prop :=
  w 0 ≤ m ∧ w 1 ≤ 8 ∧ (∀ t, t < 5 → w (10 + 4 * t) ≤ 60 ∧ w (11 + 4 * t) ≤ 60 ∧ w (12 + 4 * t) ≤ 9 ∧ w (13 + 4 * t) + nb_owed w t (w 1) ≤ 160) ∧ (∀ t u, t < 5 → u < 5 → w (30 + 5 * t + u) ≤ 1 ∧ w (30 + 5 * t + u) = w (30 + 5 * u + t)) ∧ (∀ t, t < 5 → w (30 + 6 * t) = 0) ∧ (∀ c, c < w 1 → w (55 + 3 * c) < 5 ∧ 1 ≤ w (56 + 3 * c) ∧ w (56 + 3 * c) ≤ 20 ∧ w 0 < w (57 + 3 * c) ∧ w (57 + 3 * c) ≤ w 0 + 6)
theorem nb_grd {β : Type} {b : Bool} {x : Option β} (h : b = true) : sg_grd b x = x := by
  rw [h]
  try rfl
theorem nb_let {α β : Type} (x : α) (f : α → Option β) : sg_let x f = f x := rfl
theorem nb_bnd {α β : Type} (x : α) (f : α → Option β) : sg_bnd (some x) f = f x := rfl
theorem nb_bnd2 {α γ β : Type} (x : α) (y : γ) (f : α → γ → Option β) : sg_bnd2 (some (x, y)) f = f x y := rfl
theorem nb_10 : ¬ ((1 : Int32) = 0) := by decide
theorem nb_nlt5 : ¬ (nb 5 < (5 : Int32)) := by decide
theorem nb_i5 {i : Nat} (h : i < 5) : sg_in (nb i) 5 = true := nb_in h (by decide)
theorem nb_t5 {i : Nat} (h : i < 5) : (nb i).toNatClampNeg = i := nb_tn (by omega)
theorem nb_i8 {i : Nat} (h : i < 8) : sg_in (nb i) 8 = true := nb_in h (by decide)
theorem nb_t8 {i : Nat} (h : i < 8) : (nb i).toNatClampNeg = i := nb_tn (by omega)
theorem nb_i79 {i : Nat} (h : i < 79) : sg_in (nb i) 79 = true := nb_in h (by decide)
theorem nb_t79 {i : Nat} (h : i < 79) : (nb i).toNatClampNeg = i := nb_tn (by omega)
theorem nb_at (t k : Nat) : f_X8_at (nb t) (nb k) = some (nb (10 + 4 * t + k)) := by
  show some ((nb 10 + nb 4 * nb t) + nb k) = _
  rw [nb_mul, nb_add, nb_add]
theorem nb_inn (t k : Nat) : f_X8_in (nb t) (nb k) = some (nb (55 + 3 * t + k)) := by
  show some ((nb 55 + nb 3 * nb t) + nb k) = _
  rw [nb_mul, nb_add, nb_add]
theorem nb_tr (t u : Nat) : (30 + (5 * nb t)) + nb u = nb (30 + 5 * t + u) := by
  show (nb 30 + nb 5 * nb t) + nb u = _
  rw [nb_mul, nb_add, nb_add]
theorem nb_in0 (t : Nat) : f_X8_in (nb t) 0 = some (nb (55 + 3 * t)) := nb_inn t 0
theorem nb_in1 (t : Nat) : f_X8_in (nb t) 1 = some (nb (56 + 3 * t)) := (nb_inn t 1).trans (by rw [(by omega : 55 + 3 * t + 1 = 56 + 3 * t)])
theorem nb_in2 (t : Nat) : f_X8_in (nb t) 2 = some (nb (57 + 3 * t)) := (nb_inn t 2).trans (by rw [(by omega : 55 + 3 * t + 2 = 57 + 3 * t)])
theorem nb_at0 (t : Nat) : f_X8_at (nb t) 0 = some (nb (10 + 4 * t)) := nb_at t 0
theorem nb_at1 (t : Nat) : f_X8_at (nb t) 1 = some (nb (11 + 4 * t)) := (nb_at t 1).trans (by rw [(by omega : 10 + 4 * t + 1 = 11 + 4 * t)])
theorem nb_at2 (t : Nat) : f_X8_at (nb t) 2 = some (nb (12 + 4 * t)) := (nb_at t 2).trans (by rw [(by omega : 10 + 4 * t + 2 = 12 + 4 * t)])
theorem nb_at3 (t : Nat) : f_X8_at (nb t) 3 = some (nb (13 + 4 * t)) := (nb_at t 3).trans (by rw [(by omega : 10 + 4 * t + 3 = 13 + 4 * t)])
theorem nb_sti {a b : Nat} (ha : a < 2147483648) (hb : b < 2147483648) : (nb a - nb b).toInt = (a : Int) - (b : Int) := by
  rw [Int32.toInt_sub, nb_ti ha, nb_ti hb]
  exact Int.bmod_eq_of_le (by omega) (by omega)
theorem nb_s0 {a b : Nat} (ha : a < 2147483648) (hb : b < 2147483648) : nb a - nb b = 0 ↔ a = b := by
  rw [← Int32.toInt_inj, nb_sti ha hb]
  have e : (0 : Int32).toInt = 0 := by decide
  rw [e]
  omega
theorem nb_sp {a b : Nat} (ha : a < 2147483648) (hb : b < 2147483648) : nb a - nb b ≤ 0 ↔ a ≤ b := by
  rw [Int32.le_iff_toInt_le, nb_sti ha hb]
  have e : (0 : Int32).toInt = 0 := by decide
  rw [e]
  omega
theorem nb_lkf {p k j j2 : Nat} (h : nb_lk p k j) (h2 : nb_lk p k j2) : j = j2 := by
  unfold nb_lk at h h2
  omega
theorem nb_lki {p k p2 k2 j : Nat} (h : nb_lk p k j) (h2 : nb_lk p2 k2 j) : p = p2 ∧ k = k2 := by
  unfold nb_lk at h h2
  omega
theorem nb_lkb {p k j : Nat} (h : nb_lk p k j) : j < 30 ∧ j ≠ 9 ∧ j ≠ 1 ∧ (p < 5 ∨ p = 12) ∧ (p ≠ 12 ∨ k ≠ 2) := by
  unfold nb_lk at h
  omega
theorem nb_mx {w w2 : Nat → Nat} {t : Nat} (h : ∀ k, 30 ≤ k → k < 55 → w k = w2 k) (ht : t < 5) : nb_mask w t = nb_mask w2 t := by
  unfold nb_mask
  rw [h (30 + 5 * t) (by omega) (by omega), h (30 + 5 * t + 1) (by omega) (by omega), h (30 + 5 * t + 2) (by omega) (by omega), h (30 + 5 * t + 3) (by omega) (by omega), h (30 + 5 * t + 4) (by omega) (by omega)]
theorem nb_Nu {ρ : sg_S} {w : Nat → Nat} (h : nb_N ρ w) {p k j : Nat} (hl : nb_lk p k j) (x : Nat) : nb_N (sg_up ρ p k (nb x)) (gw_u w j x) := by
  have hb := nb_lkb hl
  refine ⟨fun p2 k2 j2 h2 => ?_, fun t ht => ?_, ?_⟩
  · rw [nb_up]
    by_cases c : p2 = p ∧ k2 = k
    · have e : j2 = j := by
        rw [c.1, c.2] at h2
        exact nb_lkf h2 hl
      rw [if_pos c, e, gw_at]
    · have e : j2 ≠ j := fun d => by
        rw [d] at h2
        exact c (nb_lki h2 hl)
      rw [if_neg c, gw_ne w x e]
      exact h.1 p2 k2 j2 h2
  · rw [nb_up, if_neg (fun c => by omega), h.2.1 t ht]
    congr 1
    exact nb_mx (fun i h1 h2 => (gw_ne w x (by omega)).symm) ht
  · rw [nb_up, if_neg (fun c => by omega), gw_ne w x (by omega)]
    exact h.2.2
/-- agreeing where it counts -/
theorem nb_Nx {ρ ρ2 : sg_S} {w w2 : Nat → Nat} (h : nb_N ρ w) (hw : ∀ k, k < 55 → k ≠ 1 → w k = w2 k) (hr : ∀ p k, p < 5 ∨ p = 6 ∨ p = 12 → ρ p k = ρ2 p k) : nb_N ρ2 w2 := by
  refine ⟨fun p2 k2 j2 h2 => ?_, fun t ht => ?_, ?_⟩
  · have hb := nb_lkb h2
    rw [← hr p2 k2 (by omega), ← hw j2 (by omega) (by omega)]
    exact h.1 p2 k2 j2 h2
  · rw [← hr 6 t (by omega), h.2.1 t ht]
    congr 1
    exact nb_mx (fun i h1 h2 => hw i h2 (by omega)) ht
  · rw [← hr 12 2 (by omega), ← hw 9 (by decide) (by decide)]
    exact h.2.2
theorem nb_Cx {κ κ2 : sg_S} {w w2 : Nat → Nat} (h : nb_C κ w) (h8 : w 1 ≤ 8) (hw : ∀ k, k < 79 → k = 1 ∨ 55 ≤ k → w k = w2 k) (hr : ∀ p k, p < 4 → κ p k = κ2 p k) : nb_C κ2 w2 := by
  have e1 := hw 1 (by decide) (Or.inl rfl)
  refine ⟨?_, fun c hc => ?_⟩
  · rw [← hr 0 0 (by decide), ← e1]
    exact h.1
  · rw [← e1] at hc
    obtain ⟨a, b, d⟩ := h.2 c hc
    rw [← hr 1 c (by decide), ← hr 2 c (by decide), ← hr 3 c (by decide), ← hw (55 + 3 * c) (by omega) (by omega), ← hw (56 + 3 * c) (by omega) (by omega), ← hw (57 + 3 * c) (by omega) (by omega)]
    exact ⟨a, b, d⟩
theorem nb_Rx {ρ ρ2 : sg_S} {w w2 : Nat → Nat} (h : nb_R ρ w) (h8 : w 1 ≤ 8) (hw : ∀ k, k < 79 → w k = w2 k) (hr : ∀ p k, p < 13 → p ≠ 5 → p ≠ 7 → ρ p k = ρ2 p k) : nb_R ρ2 w2 :=
  ⟨nb_Nx h.1 (fun k hk _ => hw k (by omega)) (fun p k hp => hr p k (by omega) (by omega) (by omega)), nb_Cx h.2 h8 (fun k hk _ => hw k hk) (fun p k hp => hr (8 + p) k (by omega) (by omega) (by omega))⟩
theorem nb_Ru {ρ : sg_S} {w : Nat → Nat} (h : nb_R ρ w) (h8 : w 1 ≤ 8) {p k j : Nat} (hl : nb_lk p k j) (x : Nat) : nb_R (sg_up ρ p k (nb x)) (gw_u w j x) := by
  have hb := nb_lkb hl
  refine ⟨nb_Nu h.1 hl x, nb_Cx h.2 h8 (fun i _ h1 => (gw_ne w x (by omega)).symm) (fun q i hq => ?_)⟩
  show ρ (8 + q) i = sg_up ρ p k (nb x) (8 + q) i
  rw [nb_up, if_neg (by omega)]
theorem nb_Rb {ρ : sg_S} {w : Nat → Nat} (h : nb_R ρ w) (h8 : w 1 ≤ 8) (x : Nat) : nb_R (sg_up ρ 12 2 (nb (4 * x))) (gw_u w 9 x) := by
  refine ⟨⟨fun p2 k2 j2 h2 => ?_, fun t ht => ?_, ?_⟩, nb_Cx h.2 h8 (fun i _ h1 => (gw_ne w x (by omega)).symm) (fun q i hq => ?_)⟩
  · have hb := nb_lkb h2
    rw [nb_up, if_neg (by omega), gw_ne w x (by omega)]
    exact h.1.1 p2 k2 j2 h2
  · rw [nb_up, if_neg (by omega), h.1.2.1 t ht]
    congr 1
    exact nb_mx (fun i h1 h2 => (gw_ne w x (by omega)).symm) ht
  · rw [nb_upE, gw_at]
  · show ρ (8 + q) i = sg_up ρ 12 2 (nb (4 * x)) (8 + q) i
    rw [nb_up, if_neg (by omega)]
section NBG
variable {ρ : sg_S} {w : Nat → Nat}
theorem nb_g0 (h : nb_N ρ w) : ρ 0 0 = nb (w 0) := h.1 0 0 0 (by unfold nb_lk; omega)
theorem nb_g1 (h : nb_N ρ w) {t : Nat} (ht : t < 5) : ρ 1 t = nb (w (10 + 4 * t)) := h.1 1 t _ (by unfold nb_lk; omega)
theorem nb_g2 (h : nb_N ρ w) {t : Nat} (ht : t < 5) : ρ 2 t = nb (w (11 + 4 * t)) := h.1 2 t _ (by unfold nb_lk; omega)
theorem nb_g3 (h : nb_N ρ w) {t : Nat} (ht : t < 5) : ρ 3 t = nb (w (12 + 4 * t)) := h.1 3 t _ (by unfold nb_lk; omega)
theorem nb_g4 (h : nb_N ρ w) {t : Nat} (ht : t < 5) : ρ 4 t = nb (w (13 + 4 * t)) := h.1 4 t _ (by unfold nb_lk; omega)
theorem nb_g8 (h : nb_R ρ w) : ρ 8 0 = nb (w 1) := h.2.1
theorem nb_g9 (h : nb_R ρ w) {c : Nat} (hc : c < w 1) : ρ 9 c = nb (w (55 + 3 * c)) := (h.2.2 c hc).1
theorem nb_g10 (h : nb_R ρ w) {c : Nat} (hc : c < w 1) : ρ 10 c = nb (w (56 + 3 * c)) := (h.2.2 c hc).2.1
theorem nb_g11 (h : nb_R ρ w) {c : Nat} (hc : c < w 1) : ρ 11 c = nb (w (57 + 3 * c)) := (h.2.2 c hc).2.2
theorem nb_gb {k j : Nat} (h : nb_N ρ w) (hl : (k = 0 ∧ j = 2) ∨ (k = 1 ∧ j = 3) ∨ (3 ≤ k ∧ k < 8 ∧ j = k + 1)) : ρ 12 k = nb (w j) := h.1 12 k j (by unfold nb_lk; omega)
end NBG
theorem nb_Vu {τ : sg_S} {w : Nat → Nat} (h : nb_V (τ 1) w) (k x : Nat) : nb_V (sg_up τ 1 k (nb x) 1) (gw_u w k x) := by
  intro j hj
  rw [nb_up]
  by_cases c : j = k
  · rw [if_pos ⟨rfl, c⟩, c, gw_at]
  · rw [if_neg (fun d => c d.2), gw_ne w x c]
    exact h j hj
/-- what of the reference stays: all but the row of numbers, the distances, and whether the latest credit is paid -/
def nb_F (τ τ2 : sg_S) : Prop := ∀ p k, p ≠ 1 → p ≠ 7 → (p = 0 → k ≠ 15) → τ2 p k = τ p k
theorem nb_Frf (τ : sg_S) : nb_F τ τ := fun _ _ _ _ _ => rfl
theorem nb_Ftr {a b c : sg_S} (h : nb_F a b) (h2 : nb_F b c) : nb_F a c := fun p k h1 h7 h0 => (h2 p k h1 h7 h0).trans (h p k h1 h7 h0)
theorem nb_Fu (τ : sg_S) (k : Nat) (x : Int32) : nb_F τ (sg_up τ 1 k x) := fun p j h1 _ _ => by rw [nb_up, if_neg (fun c => h1 c.1)]
theorem nb_Fp (τ : sg_S) (x : Int32) : nb_F τ (sg_up τ 0 15 x) := fun p j _ _ h0 => by rw [nb_up, if_neg (fun c => h0 c.1 c.2)]
def nb_F0 (τ τ2 : sg_S) : Prop := ∀ p k, p ≠ 1 → p ≠ 7 → τ2 p k = τ p k
theorem nb_F0rf (τ : sg_S) : nb_F0 τ τ := fun _ _ _ _ => rfl
theorem nb_F0tr {a b c : sg_S} (h : nb_F0 a b) (h2 : nb_F0 b c) : nb_F0 a c := fun p k h1 h7 => (h2 p k h1 h7).trans (h p k h1 h7)
theorem nb_F0u (τ : sg_S) (k : Nat) (x : Int32) : nb_F0 τ (sg_up τ 1 k x) := fun p j h1 _ => by rw [nb_up, if_neg (fun c => h1 c.1)]
theorem nb_Fw {a b : sg_S} (h : nb_F0 a b) : nb_F a b := fun p k h1 h7 _ => h p k h1 h7
def gw_p (w : Nat → Nat) (j d : Nat) : Nat → Nat := fun k => if k = j then w k + d else w k
def gw_m (w : Nat → Nat) (j d : Nat) : Nat → Nat := fun k => if k = j then w k - d else w k
theorem gw_pat (w : Nat → Nat) (j d : Nat) : gw_p w j d j = w j + d := if_pos rfl
theorem gw_pne (w : Nat → Nat) {j k : Nat} (d : Nat) (h : k ≠ j) : gw_p w j d k = w k := if_neg h
theorem gw_mat (w : Nat → Nat) (j d : Nat) : gw_m w j d j = w j - d := if_pos rfl
theorem gw_mne (w : Nat → Nat) {j k : Nat} (d : Nat) (h : k ≠ j) : gw_m w j d k = w k := if_neg h
theorem gw_pE (w : Nat → Nat) (j d : Nat) : gw_p w j d = gw_u w j (w j + d) := by
  funext k
  unfold gw_p gw_u
  by_cases h : k = j
  · rw [if_pos h, if_pos h, h]
  · rw [if_neg h, if_neg h]
theorem gw_mE (w : Nat → Nat) (j d : Nat) : gw_m w j d = gw_u w j (w j - d) := by
  funext k
  unfold gw_m gw_u
  by_cases h : k = j
  · rw [if_pos h, if_pos h, h]
  · rw [if_neg h, if_neg h]
theorem nb_Np {ρ : sg_S} {w : Nat → Nat} (h : nb_N ρ w) {p k j : Nat} (hl : nb_lk p k j) (d : Nat) : nb_N (sg_up ρ p k (ρ p k + nb d)) (gw_p w j d) := by
  rw [h.1 p k j hl, nb_add, gw_pE]
  exact nb_Nu h hl _
theorem nb_Nm {ρ : sg_S} {w : Nat → Nat} (h : nb_N ρ w) {p k j d : Nat} (hl : nb_lk p k j) (hd : d ≤ w j) : nb_N (sg_up ρ p k (ρ p k - nb d)) (gw_m w j d) := by
  rw [h.1 p k j hl, nb_sub hd, gw_mE]
  exact nb_Nu h hl _
theorem nb_Vp {τ : sg_S} {w : Nat → Nat} (h : nb_V (τ 1) w) {k : Nat} (hk : k < 79) (d : Nat) : nb_V (sg_up τ 1 k (τ 1 k + nb d) 1) (gw_p w k d) := by
  rw [h k hk, nb_add, gw_pE]
  exact nb_Vu h k _
theorem nb_Vm {τ : sg_S} {w : Nat → Nat} (h : nb_V (τ 1) w) {k d : Nat} (hk : k < 79) (hd : d ≤ w k) : nb_V (sg_up τ 1 k (τ 1 k - nb d) 1) (gw_m w k d) := by
  rw [h k hk, nb_sub hd, gw_mE]
  exact nb_Vu h k _
theorem nb_Vx {v : Nat → Int32} {w w2 : Nat → Nat} (h : nb_V v w) (hw : ∀ k, k < 79 → w k = w2 k) : nb_V v w2 := fun k hk => (h k hk).trans (by rw [hw k hk])
