/-! ORDERS: the first place that so many come ahead of; towns by arrears, credits by what is due -/
def go_f (c : Nat → Nat) (x : Int32) : Nat → Nat → Int32
  | 0, _ => -1
  | m + 1, i => if nb (c i) = x then nb i else go_f c x m (i + 1)
def go_A (w : Nat → Nat) (o t : Nat) : Bool := decide (w (13 + 4 * t) < w (13 + 4 * o) ∨ w (13 + 4 * o) = w (13 + 4 * t) ∧ (w (10 + 4 * o) < w (10 + 4 * t) ∨ w (10 + 4 * o) = w (10 + 4 * t) ∧ o < t))
def go_B (w : Nat → Nat) (o c : Nat) : Bool := decide (w (57 + 3 * o) < w (57 + 3 * c) ∨ w (57 + 3 * o) = w (57 + 3 * c) ∧ (w (56 + 3 * c) < w (56 + 3 * o) ∨ w (56 + 3 * o) = w (56 + 3 * c) ∧ o < c))
def go_N (p : Nat → Nat → Bool) (n t : Nat) : Nat := gc_s (fun o => p o t) (fun _ => 1) n
def go_Rb (w : Nat → Nat) : Prop := ∀ t, t < 5 → w (10 + 4 * t) < 2147483648 ∧ w (13 + 4 * t) < 2147483648
theorem go_if {p : Prop} [Decidable p] {a b : Int32} {x : Int32} (h : p → a = x) (h2 : ¬ p → b = x) : (if p then some a else some b) = some x := by
  by_cases c : p
  · rw [if_pos c, h c]
  · rw [if_neg c, h2 c]
theorem go_cA {ρ : sg_S} {w : Nat → Nat} (hs : ∀ t, t < 5 → ρ 1 t = nb (w (10 + 4 * t)) ∧ ρ 4 t = nb (w (13 + 4 * t))) (hb : go_Rb w) {o t : Nat} (ho : o < 5) (ht : t < 5) : f_X3_comesAhead (nb o) (nb t) ρ = some (nb (go_A w o t).toNat) := by
  unfold f_X3_comesAhead
  obtain ⟨o1, o4⟩ := hs o ho
  obtain ⟨t1, t4⟩ := hs t ht
  obtain ⟨bo1, bo4⟩ := hb o ho
  obtain ⟨bt1, bt4⟩ := hb t ht
  rw [(nb_townE ho).1, nb_bnd, if_neg nb_10, (nb_townE ht).1, nb_bnd, if_neg nb_10, nb_grd (nb_i5 ho), nb_grd (nb_i5 ht), nb_t5 ho, nb_t5 ht, o1, o4, t1, t4]
  unfold go_A
  by_cases c1 : w (13 + 4 * o) = w (13 + 4 * t)
  · rw [if_pos (by rw [c1])]
    by_cases c2 : w (10 + 4 * o) = w (10 + 4 * t)
    · rw [if_pos (by rw [c2])]
      apply go_if
      · intro c3
        have c4 := (nb_lt (by omega) (by omega)).mp c3
        rw [decide_eq_true (Or.inr ⟨c1, Or.inr ⟨c2, c4⟩⟩)]
        try rfl
      · intro c3
        rw [decide_eq_false]
        · rfl
        · intro d
          apply c3
          exact nb_lt_t (by omega) (by omega)
    · rw [if_neg (nb_ne c2 bo1 bt1)]
      apply go_if
      · intro c3
        have c4 := (nb_lt bo1 bt1).mp c3
        rw [decide_eq_true (Or.inr ⟨c1, Or.inl c4⟩)]
        try rfl
      · intro c3
        rw [decide_eq_false]
        · rfl
        · intro d
          apply c3
          exact nb_lt_t (by omega) (by omega)
  · rw [if_neg (nb_ne c1 bo4 bt4)]
    apply go_if
    · intro c3
      have c4 := (nb_lt bt4 bo4).mp c3
      rw [decide_eq_true (Or.inl c4)]
      try rfl
    · intro c3
      rw [decide_eq_false]
      · rfl
      · intro d
        apply c3
        exact nb_lt_t (by omega) (by omega)
theorem go_rank {ρ : sg_S} {w : Nat → Nat} (hs : ∀ t, t < 5 → ρ 1 t = nb (w (10 + 4 * t)) ∧ ρ 4 t = nb (w (13 + 4 * t))) (hb : go_Rb w) {t : Nat} (ht : t < 5) : f_X3_rankOf (nb t) ρ = some (nb (go_N (go_A w) 5 t)) := by
  have L : ∀ m i n, i + m = 5 → m < n → f_X3_rankOf_L4 (nb t) ρ n (nb (gc_s (fun o => go_A w o t) (fun _ => 1) i)) (nb i) = some (nb (go_N (go_A w) 5 t)) := by
    intro m
    induction m with
    | zero =>
      intro i n h1 h2
      obtain ⟨n, rfl⟩ : ∃ k, n = k + 1 := ⟨n - 1, by omega⟩
      have e : i = 5 := by omega
      rw [e, f_X3_rankOf_L4, if_neg nb_nlt5]
      try rfl
    | succ m ih =>
      intro i n h1 h2
      obtain ⟨n, rfl⟩ : ∃ k, n = k + 1 := ⟨n - 1, by omega⟩
      have hi : i < 5 := by omega
      rw [f_X3_rankOf_L4, if_pos (nb_lt5 hi), go_cA hs hb hi ht, nb_bnd, nb_succ, nb_succ]
      cases c : go_A w i t with
      | true =>
        rw [if_neg (by decide), gc_sT (p := fun o => go_A w o t) (h := fun _ => 1) c]
        exact ih (i + 1) n (by omega) (by omega)
      | false =>
        rw [if_pos (by decide), gc_sF (p := fun o => go_A w o t) (h := fun _ => 1) c]
        exact ih (i + 1) n (by omega) (by omega)
  exact L 5 0 1000 (by omega) (by omega)
theorem go_ranked {σ : sg_S} {w : Nat → Nat} (hs : ∀ t, t < 5 → σ 2 t = nb (w (10 + 4 * t)) ∧ σ 5 t = nb (w (13 + 4 * t))) (hb : go_Rb w) (x : Int32) : f_X7_ranked x σ = some (go_f (go_N (go_A w) 5) x 5 0) := by
  have L : ∀ m i n, i + m = 5 → m < n → f_X7_ranked_L2 x σ n (nb i) = some (go_f (go_N (go_A w) 5) x m i) := by
    intro m
    induction m with
    | zero =>
      intro i n h1 h2
      obtain ⟨n, rfl⟩ : ∃ k, n = k + 1 := ⟨n - 1, by omega⟩
      have e : i = 5 := by omega
      rw [e, f_X7_ranked_L2, if_neg nb_nlt5]
      try rfl
    | succ m ih =>
      intro i n h1 h2
      obtain ⟨n, rfl⟩ : ∃ k, n = k + 1 := ⟨n - 1, by omega⟩
      have hi : i < 5 := by omega
      rw [f_X7_ranked_L2, if_pos (nb_lt5 hi), go_rank (ρ := sg_e1 1 σ) hs hb hi, nb_bnd, nb_succ, go_f]
      by_cases c : nb (go_N (go_A w) 5 i) = x
      · rw [if_pos c, if_pos c]
      · rw [if_neg c, if_neg c]
        exact ih (i + 1) n (by omega) (by omega)
  exact L 5 0 1000 (by omega) (by omega)
theorem go_vJ (x : Int32) (τ : sg_S) (κ2 : Int32 → Option Int32) (κ12 : Int32 → Int32 → Int32 → Option Int32) {t o s a b : Nat} (ht : t < 2147483648) (ho : o < 2147483648) (ha : a < 2147483648) (hb : b < 2147483648) : f_X8_ranked_J74 x τ κ2 κ12 (nb t) (nb s) (nb o) (nb a - nb b) = κ12 (nb t) (nb (s + if o ≠ t ∧ (b < a ∨ a = b ∧ o < t) then 1 else 0)) (nb (o + 1)) := by
  rw [f_X8_ranked_J74, nb_succ, nb_succ, Int32.add_zero]
  by_cases c1 : o = t
  · rw [if_pos (by rw [c1]), if_neg (fun d => d.1 c1), nb_let]
    rfl
  · rw [if_neg (nb_ne c1 ho ht)]
    by_cases c2 : a ≤ b
    · rw [if_pos ((nb_sp ha hb).mpr c2)]
      by_cases c3 : a = b
      · rw [if_pos ((nb_s0 ha hb).mpr c3)]
        by_cases c4 : o < t
        · rw [if_pos (nb_lt_t c4 ht), nb_let, if_pos ⟨c1, Or.inr ⟨c3, c4⟩⟩]
        · rw [if_neg (nb_lt_f (by omega) ho), nb_let, if_neg (fun d => by omega)]
          rfl
      · rw [if_neg (fun d => c3 ((nb_s0 ha hb).mp d)), nb_let, if_neg (fun d => by omega)]
        rfl
    · rw [if_neg (fun d => c2 ((nb_sp ha hb).mp d)), nb_let, if_pos ⟨c1, Or.inl (by omega)⟩]
theorem go_vJ0 (x : Int32) (τ : sg_S) (κ2 : Int32 → Option Int32) (κ12 : Int32 → Int32 → Int32 → Option Int32) {t o s a b : Nat} (ht : t < 2147483648) (ho : o < 2147483648) (ha : a < 2147483648) (hb : b < 2147483648) : f_X8_next_J84 x τ κ2 κ12 (nb t) (nb s) (nb o) (nb a - nb b) = κ12 (nb t) (nb (s + if o ≠ t ∧ (b < a ∨ a = b ∧ o < t) then 1 else 0)) (nb (o + 1)) := go_vJ x τ κ2 κ12 ht ho ha hb
theorem go_vranked {τ : sg_S} {w : Nat → Nat} (hV : nb_V (τ 1) w) (hb : go_Rb w) (x : Int32) : f_X8_ranked x τ = some (go_f (go_N (go_A w) 5) x 5 0) := by
  have I : ∀ (κ : Int32 → Option Int32) (t : Nat), t < 5 → ∀ m i n, i + m = 5 → m < n → f_X8_ranked_L12 x τ κ n (nb t) (nb (gc_s (fun o => go_A w o t) (fun _ => 1) i)) (nb i) = if nb (go_N (go_A w) 5 t) = x then some (nb t) else κ (nb (t + 1)) := by
    intro κ t ht m
    induction m with
    | zero =>
      intro i n h1 h2
      obtain ⟨n, rfl⟩ : ∃ k, n = k + 1 := ⟨n - 1, by omega⟩
      have e : i = 5 := by omega
      rw [e, f_X8_ranked_L12, if_neg nb_nlt5, nb_succ]
      try rfl
    | succ m ih =>
      intro i n h1 h2
      obtain ⟨n, rfl⟩ : ∃ k, n = k + 1 := ⟨n - 1, by omega⟩
      have hi : i < 5 := by omega
      obtain ⟨bo1, bo4⟩ := hb i hi
      obtain ⟨bt1, bt4⟩ := hb t ht
      have e : gc_s (fun o => go_A w o t) (fun _ => 1) (i + 1) = gc_s (fun o => go_A w o t) (fun _ => 1) i + (if go_A w i t = true then 1 else 0) := by rw [gc_s]
      rw [f_X8_ranked_L12, if_pos (nb_lt5 hi), nb_at3, nb_bnd, nb_grd (nb_i79 (by omega)), nb_at3, nb_bnd, nb_grd (nb_i79 (by omega)), nb_t79 (by omega), nb_t79 (by omega), hV (13 + 4 * i) (by omega), hV (13 + 4 * t) (by omega), nb_let]
      have ih2 := ih (i + 1) n (by omega) (by omega)
      rw [e] at ih2
      by_cases c1 : w (13 + 4 * i) = w (13 + 4 * t)
      · rw [if_pos ((nb_s0 bo4 bt4).mpr c1), nb_at0, nb_bnd, nb_grd (nb_i79 (by omega)), nb_at0, nb_bnd, nb_grd (nb_i79 (by omega)), nb_t79 (by omega), nb_t79 (by omega), hV (10 + 4 * i) (by omega), hV (10 + 4 * t) (by omega), go_vJ x τ κ _ (by omega) (by omega) bt1 bo1]
        have e2 : (if i ≠ t ∧ (w (10 + 4 * i) < w (10 + 4 * t) ∨ w (10 + 4 * t) = w (10 + 4 * i) ∧ i < t) then 1 else 0) = (if go_A w i t = true then 1 else 0) := by
          unfold go_A
          simp only [decide_eq_true_eq]
          by_cases d : i ≠ t ∧ (w (10 + 4 * i) < w (10 + 4 * t) ∨ w (10 + 4 * t) = w (10 + 4 * i) ∧ i < t)
          · rw [if_pos d, if_pos (by omega)]
          · rw [if_neg d, if_neg (fun c => d (by
              by_cases q : i = t
              · subst q
                omega
              · exact ⟨q, by omega⟩))]
        rw [e2]
        exact ih2
      · rw [if_neg (fun d => c1 ((nb_s0 bo4 bt4).mp d)), go_vJ x τ κ _ (by omega) (by omega) bo4 bt4]
        have e2 : (if i ≠ t ∧ (w (13 + 4 * t) < w (13 + 4 * i) ∨ w (13 + 4 * i) = w (13 + 4 * t) ∧ i < t) then 1 else 0) = (if go_A w i t = true then 1 else 0) := by
          unfold go_A
          simp only [decide_eq_true_eq]
          by_cases d : i ≠ t ∧ (w (13 + 4 * t) < w (13 + 4 * i) ∨ w (13 + 4 * i) = w (13 + 4 * t) ∧ i < t)
          · rw [if_pos d, if_pos (by omega)]
          · rw [if_neg d, if_neg (fun c => d (by
              by_cases q : i = t
              · subst q
                omega
              · exact ⟨q, by omega⟩))]
        rw [e2]
        exact ih2
  have L : ∀ m i n, i + m = 5 → m < n → f_X8_ranked_L2 x τ n (nb i) = some (go_f (go_N (go_A w) 5) x m i) := by
    intro m
    induction m with
    | zero =>
      intro i n h1 h2
      obtain ⟨n, rfl⟩ : ∃ k, n = k + 1 := ⟨n - 1, by omega⟩
      have e : i = 5 := by omega
      rw [e, f_X8_ranked_L2, if_neg nb_nlt5]
      try rfl
    | succ m ih =>
      intro i n h1 h2
      obtain ⟨n, rfl⟩ : ∃ k, n = k + 1 := ⟨n - 1, by omega⟩
      have hi : i < 5 := by omega
      rw [f_X8_ranked_L2, if_pos (nb_lt5 hi), go_f]
      refine (I (fun z2' => f_X8_ranked_L2 x τ n z2') i hi 5 0 1000 (by omega) (by omega)).trans ?_
      by_cases c : nb (go_N (go_A w) 5 i) = x
      · rw [if_pos c, if_pos c]
      · rw [if_neg c, if_neg c]
        exact ih (i + 1) n (by omega) (by omega)
  exact L 5 0 1000 (by omega) (by omega)
/-! credits -/
theorem go_cB {κ : sg_S} {w : Nat → Nat} (hC : nb_C κ w) (hK : gc_K w) {o t : Nat} (ho : o < w 1) (ht : t < w 1) : f_X1_comesAhead (nb o) (nb t) κ = some (nb (go_B w o t).toNat) := by
  have k8 := hK.1
  obtain ⟨o1, o2, o3⟩ := hC.2 o ho
  obtain ⟨t1, t2, t3⟩ := hC.2 t ht
  obtain ⟨_, bo2, bo3⟩ := hK.2 o ho
  obtain ⟨_, bt2, bt3⟩ := hK.2 t ht
  have th : ∀ c, c < w 1 → f_X1_isThere (nb c) κ = some 1 := by
    intro c hc
    unfold f_X1_isThere
    rw [if_pos (nb_0le (by omega)), hC.1, if_pos (nb_lt_t hc (by omega)), if_pos (show nb c < (8 : Int32) from nb_lt_t (b := 8) (by omega) (by decide))]
  unfold f_X1_comesAhead
  rw [th o ho, nb_bnd, if_neg nb_10, th t ht, nb_bnd, if_neg nb_10, nb_grd (nb_i8 (by omega)), nb_grd (nb_i8 (by omega)), nb_t8 (by omega), nb_t8 (by omega), o2, o3, t2, t3]
  unfold go_B
  by_cases c1 : w (57 + 3 * o) = w (57 + 3 * t)
  · rw [if_pos (by rw [c1])]
    by_cases c2 : w (56 + 3 * o) = w (56 + 3 * t)
    · rw [if_pos (by rw [c2])]
      apply go_if
      · intro c3
        have c4 := (nb_lt (by omega) (by omega)).mp c3
        rw [decide_eq_true (Or.inr ⟨c1, Or.inr ⟨c2, c4⟩⟩)]
        try rfl
      · intro c3
        rw [decide_eq_false]
        · rfl
        · intro d
          apply c3
          exact nb_lt_t (by omega) (by omega)
    · rw [if_neg (nb_ne c2 bo2 bt2)]
      apply go_if
      · intro c3
        have c4 := (nb_lt bt2 bo2).mp c3
        rw [decide_eq_true (Or.inr ⟨c1, Or.inl c4⟩)]
        try rfl
      · intro c3
        rw [decide_eq_false]
        · rfl
        · intro d
          apply c3
          exact nb_lt_t (by omega) (by omega)
  · rw [if_neg (nb_ne c1 bo3 bt3)]
    apply go_if
    · intro c3
      have c4 := (nb_lt bo3 bt3).mp c3
      rw [decide_eq_true (Or.inl c4)]
      try rfl
    · intro c3
      rw [decide_eq_false]
      · rfl
      · intro d
        apply c3
        exact nb_lt_t (by omega) (by omega)
theorem go_place {κ : sg_S} {w : Nat → Nat} (hC : nb_C κ w) (hK : gc_K w) {t : Nat} (ht : t < w 1) : f_X1_placeOf (nb t) κ = some (nb (go_N (go_B w) (w 1) t)) := by
  have k8 := hK.1
  have L : ∀ m i n, i + m = w 1 → m < n → f_X1_placeOf_L4 (nb t) κ n (nb (gc_s (fun o => go_B w o t) (fun _ => 1) i)) (nb i) = some (nb (go_N (go_B w) (w 1) t)) := by
    intro m
    induction m with
    | zero =>
      intro i n h1 h2
      obtain ⟨n, rfl⟩ : ∃ k, n = k + 1 := ⟨n - 1, by omega⟩
      have e : i = w 1 := by omega
      rw [f_X1_placeOf_L4, hC.1, if_neg (nb_lt_f (by omega) (by omega)), e]
      try rfl
    | succ m ih =>
      intro i n h1 h2
      obtain ⟨n, rfl⟩ : ∃ k, n = k + 1 := ⟨n - 1, by omega⟩
      have hi : i < w 1 := by omega
      rw [f_X1_placeOf_L4, hC.1, if_pos (nb_lt_t hi (by omega)), go_cB hC hK hi ht, nb_bnd, nb_succ, nb_succ]
      cases c : go_B w i t with
      | true =>
        rw [if_neg (by decide), gc_sT (p := fun o => go_B w o t) (h := fun _ => 1) c]
        exact ih (i + 1) n (by omega) (by omega)
      | false =>
        rw [if_pos (by decide), gc_sF (p := fun o => go_B w o t) (h := fun _ => 1) c]
        exact ih (i + 1) n (by omega) (by omega)
  exact L (w 1) 0 1000 (by omega) (by omega)
theorem go_next {σ : sg_S} {w : Nat → Nat} (hC : nb_C (sg_e1 9 σ) w) (hK : gc_K w) (x : Int32) : f_X7_next x σ = some (go_f (go_N (go_B w) (w 1)) x (w 1) 0) := by
  have k8 := hK.1
  have h9 : σ 9 0 = nb (w 1) := hC.1
  have L : ∀ m i n, i + m = w 1 → m < n → f_X7_next_L2 x σ n (nb i) = some (go_f (go_N (go_B w) (w 1)) x m i) := by
    intro m
    induction m with
    | zero =>
      intro i n h1 h2
      obtain ⟨n, rfl⟩ : ∃ k, n = k + 1 := ⟨n - 1, by omega⟩
      rw [f_X7_next_L2, h9, if_neg (nb_lt_f (by omega) (by omega))]
      try rfl
    | succ m ih =>
      intro i n h1 h2
      obtain ⟨n, rfl⟩ : ∃ k, n = k + 1 := ⟨n - 1, by omega⟩
      have hi : i < w 1 := by omega
      rw [f_X7_next_L2, h9, if_pos (nb_lt_t hi (by omega)), go_place hC hK hi, nb_bnd, nb_succ, go_f]
      by_cases c : nb (go_N (go_B w) (w 1) i) = x
      · rw [if_pos c, if_pos c]
      · rw [if_neg c, if_neg c]
        exact ih (i + 1) n (by omega) (by omega)
  exact L (w 1) 0 1000 (by omega) (by omega)
theorem go_vnext {τ : sg_S} {w : Nat → Nat} (hV : nb_V (τ 1) w) (hK : gc_K w) (x : Int32) : f_X8_next x τ = some (go_f (go_N (go_B w) (w 1)) x (w 1) 0) := by
  have k8 := hK.1
  have I : ∀ (κ : Int32 → Option Int32) (t : Nat), t < w 1 → ∀ m i n, i + m = w 1 → m < n → f_X8_next_L17 x τ κ n (nb t) (nb (gc_s (fun o => go_B w o t) (fun _ => 1) i)) (nb i) = if nb (go_N (go_B w) (w 1) t) = x then some (nb t) else κ (nb (t + 1)) := by
    intro κ t ht m
    induction m with
    | zero =>
      intro i n h1 h2
      obtain ⟨n, rfl⟩ : ∃ k, n = k + 1 := ⟨n - 1, by omega⟩
      have e : i = w 1 := by omega
      rw [f_X8_next_L17, hV 1 (by decide), if_neg (nb_lt_f (by omega) (by omega)), nb_succ, e]
      try rfl
    | succ m ih =>
      intro i n h1 h2
      obtain ⟨n, rfl⟩ : ∃ k, n = k + 1 := ⟨n - 1, by omega⟩
      have hi : i < w 1 := by omega
      obtain ⟨_, bo2, bo3⟩ := hK.2 i hi
      obtain ⟨_, bt2, bt3⟩ := hK.2 t ht
      have e : gc_s (fun o => go_B w o t) (fun _ => 1) (i + 1) = gc_s (fun o => go_B w o t) (fun _ => 1) i + (if go_B w i t = true then 1 else 0) := by rw [gc_s]
      rw [f_X8_next_L17, hV 1 (by decide), if_pos (nb_lt_t hi (by omega)), nb_in2, nb_bnd, nb_grd (nb_i79 (by omega)), nb_in2, nb_bnd, nb_grd (nb_i79 (by omega)), nb_t79 (by omega), nb_t79 (by omega), hV (57 + 3 * i) (by omega), hV (57 + 3 * t) (by omega), nb_let]
      have ih2 := ih (i + 1) n (by omega) (by omega)
      rw [e] at ih2
      by_cases c1 : w (57 + 3 * t) = w (57 + 3 * i)
      · rw [if_pos ((nb_s0 bt3 bo3).mpr c1), nb_in1, nb_bnd, nb_grd (nb_i79 (by omega)), nb_in1, nb_bnd, nb_grd (nb_i79 (by omega)), nb_t79 (by omega), nb_t79 (by omega), hV (56 + 3 * i) (by omega), hV (56 + 3 * t) (by omega), go_vJ0 x τ κ _ (by omega) (by omega) bo2 bt2]
        have e2 : (if i ≠ t ∧ (w (56 + 3 * t) < w (56 + 3 * i) ∨ w (56 + 3 * i) = w (56 + 3 * t) ∧ i < t) then 1 else 0) = (if go_B w i t = true then 1 else 0) := by
          unfold go_B
          simp only [decide_eq_true_eq]
          by_cases d : i ≠ t ∧ (w (56 + 3 * t) < w (56 + 3 * i) ∨ w (56 + 3 * i) = w (56 + 3 * t) ∧ i < t)
          · rw [if_pos d, if_pos (by omega)]
          · rw [if_neg d, if_neg (fun c => d (by
              by_cases q : i = t
              · subst q
                omega
              · exact ⟨q, by omega⟩))]
        rw [e2]
        exact ih2
      · rw [if_neg (fun d => c1 ((nb_s0 bt3 bo3).mp d)), go_vJ0 x τ κ _ (by omega) (by omega) bt3 bo3]
        have e2 : (if i ≠ t ∧ (w (57 + 3 * i) < w (57 + 3 * t) ∨ w (57 + 3 * t) = w (57 + 3 * i) ∧ i < t) then 1 else 0) = (if go_B w i t = true then 1 else 0) := by
          unfold go_B
          simp only [decide_eq_true_eq]
          by_cases d : i ≠ t ∧ (w (57 + 3 * i) < w (57 + 3 * t) ∨ w (57 + 3 * t) = w (57 + 3 * i) ∧ i < t)
          · rw [if_pos d, if_pos (by omega)]
          · rw [if_neg d, if_neg (fun c => d (by
              by_cases q : i = t
              · subst q
                omega
              · exact ⟨q, by omega⟩))]
        rw [e2]
        exact ih2
  have L : ∀ m i n, i + m = w 1 → m < n → f_X8_next_L2 x τ n (nb i) = some (go_f (go_N (go_B w) (w 1)) x m i) := by
    intro m
    induction m with
    | zero =>
      intro i n h1 h2
      obtain ⟨n, rfl⟩ : ∃ k, n = k + 1 := ⟨n - 1, by omega⟩
      rw [f_X8_next_L2, hV 1 (by decide), if_neg (nb_lt_f (by omega) (by omega))]
      try rfl
    | succ m ih =>
      intro i n h1 h2
      obtain ⟨n, rfl⟩ : ∃ k, n = k + 1 := ⟨n - 1, by omega⟩
      have hi : i < w 1 := by omega
      rw [f_X8_next_L2, hV 1 (by decide), if_pos (nb_lt_t hi (by omega)), go_f]
      refine (I (fun z2' => f_X8_next_L2 x τ n z2') i hi (w 1) 0 1000 (by omega) (by omega)).trans ?_
      by_cases c : nb (go_N (go_B w) (w 1) i) = x
      · rw [if_pos c, if_pos c]
      · rw [if_neg c, if_neg c]
        exact ih (i + 1) n (by omega) (by omega)
  exact L (w 1) 0 1000 (by omega) (by omega)
