/-! THE WORD FOUND; THE REST OF A COMMAND: the reference -/
def pr_z (f : Nat → Nat) (n p i : Nat) : Nat → Int32
  | 0 => -1
  | k + 1 => if pr_q f n p i k = true ∧ (pt_w k).length = i then nb k else pr_z f n p i k
theorem pr_167 {κ : Int32 → Int32 → sg_S → Option (Int32 × sg_S)} {f : Nat → Nat} {n p i : Nat} {τ : sg_S} (hi : i ≤ 8) (h10 : ∀ j, j < 8 → τ 10 j = nb (pr_q f n p i j).toNat) (h12 : ∀ k, k < 9 → τ 12 k = nb (pr_a k)) : ∀ (m k N : Nat), k + m = 8 → m < N → f_X8_word_L167 κ N (nb i) (pr_z f n p i k) (nb k) τ = κ (nb i) (pr_z f n p i 8) τ := by
  intro m
  induction m with
  | zero =>
    intro k N h1 h2
    obtain ⟨N, rfl⟩ : ∃ k, N = k + 1 := ⟨N - 1, by omega⟩
    have e : k = 8 := by omega
    subst e
    rw [f_X8_word_L167, if_neg (show ¬ nb 8 < (8 : Int32) by decide)]
  | succ m ih =>
    intro k N h1 h2
    obtain ⟨N, rfl⟩ : ∃ k, N = k + 1 := ⟨N - 1, by omega⟩
    have hk : k < 8 := by omega
    obtain ⟨w1, w2, w3⟩ := pr_wd k hk
    have nx := ih (k + 1) N (by omega) (by omega)
    rw [f_X8_word_L167, if_pos (show nb k < (8 : Int32) from nb_lt_t (b := 8) hk (by decide)), nb_grd (nb_i8 hk), nb_t8 hk, h10 k hk, nb_succ, nb_grd (nb_in (by omega) (by decide)), nb_grd (nb_in (by omega) (by decide)), nb_tn (a := k + 1) (by omega), h12 k (by omega), h12 (k + 1) (by omega), nb_add]
    cases hq : pr_q f n p i k with
    | true =>
      rw [if_pos (by rfl)]
      by_cases l : (pt_w k).length = i
      · rw [if_pos (by rw [w1, l])]
        rw [pr_z, if_pos ⟨hq, l⟩] at nx
        exact nx
      · rw [if_neg (nb_ne (by omega) (by omega) (by omega))]
        rw [pr_z, if_neg (fun q => l q.2)] at nx
        exact nx
    | false =>
      rw [if_neg (by decide)]
      rw [pr_z, if_neg (fun q => by rw [hq] at q; exact absurd q.1 (by decide))] at nx
      exact nx
theorem pr_yE {f : Nat → Nat} {n p i : Nat} : ∀ k, pr_y f n p i k = true ↔ ∃ j, j < k ∧ i ≤ pt_m f n (pt_w j) p := by
  intro k
  induction k with
  | zero =>
    constructor
    · intro h
      cases h
    · rintro ⟨j, hj, _⟩
      exact absurd hj (Nat.not_lt_zero j)
  | succ k ih =>
    rw [pr_y, Bool.or_eq_true, ih]
    constructor
    · rintro (⟨j, h1, h2⟩ | h)
      · exact ⟨j, by omega, h2⟩
      · exact ⟨k, by omega, of_decide_eq_true h⟩
    · rintro ⟨j, h1, h2⟩
      by_cases e : j = k
      · subst e
        exact Or.inr (decide_eq_true h2)
      · exact Or.inl ⟨j, by omega, h2⟩
theorem pr_zE {f : Nat → Nat} {n p i : Nat} : ∀ k, (∀ j, j < k → ¬ (i ≤ pt_m f n (pt_w j) p ∧ (pt_w j).length = i)) → pr_z f n p i k = -1 := by
  intro k
  induction k with
  | zero =>
    intro _
    rfl
  | succ k ih =>
    intro h
    rw [pr_z, if_neg (fun q => h k (by omega) ⟨of_decide_eq_true q.1, q.2⟩)]
    exact ih (fun j hj => h j (by omega))
theorem pr_zK {f : Nat → Nat} {n p i j : Nat} : ∀ k, k ≤ 8 → j < k → i ≤ pt_m f n (pt_w j) p → (pt_w j).length = i → pr_z f n p i k = nb j := by
  intro k
  induction k with
  | zero =>
    intro _ h
    exact absurd h (Nat.not_lt_zero j)
  | succ k ih =>
    intro h8 hj h1 h2
    rw [pr_z]
    by_cases e : j = k
    · subst e
      rw [if_pos ⟨decide_eq_true h1, h2⟩]
    · have hm : pt_m f n (pt_w j) p = (pt_w j).length := by
        have := pt_mle f n (pt_w j) p
        omega
      have u := pt_uni (f := f) (n := n) (p := p) (k := j) (j := k) (by omega) (by omega) e hm
      rw [if_neg (fun q => by
        have := of_decide_eq_true q.1
        omega)]
      exact ih (by omega) (by omega) h1 h2
def pr_W (f : Nat → Nat) (n p : Nat) (τ : sg_S) (o : Option (Int32 × sg_S)) : Prop := (∃ k τ2, k < 8 ∧ pt_m f n (pt_w k) p = (pt_w k).length ∧ o = some (nb k, τ2) ∧ pr_I τ2 f n (p + (pt_w k).length) ∧ pr_F τ τ2) ∨ (∃ M τ2, (∀ k, k < 8 → pt_m f n (pt_w k) p ≤ M ∧ pt_m f n (pt_w k) p < (pt_w k).length) ∧ (∃ k, k < 8 ∧ pt_m f n (pt_w k) p = M) ∧ o = some (-1, τ2) ∧ τ2 0 22 = nb (p + M) ∧ τ2 0 25 = 1 ∧ pr_F τ τ2)
theorem pr_Wt {f : Nat → Nat} {n p : Nat} {τ τ1 : sg_S} {o : Option (Int32 × sg_S)} (hF : pr_F τ τ1) (h : pr_W f n p τ1 o) : pr_W f n p τ o := by
  rcases h with ⟨k, τ2, a, b, c, d, e⟩ | ⟨M, τ2, a, b, c, d, e, g⟩
  · exact Or.inl ⟨k, τ2, a, b, c, d, pr_Ftr hF e⟩
  · exact Or.inr ⟨M, τ2, a, b, c, d, e, pr_Ftr hF g⟩
theorem pr_25 {f : Nat → Nat} {n p : Nat} (hf : ∀ k, k < n → f k ≤ 127) : ∀ (m i N : Nat) (τ : sg_S), i + m = 7 → m + 1 < N → pr_I τ f n (p + i) → (∀ j, j < 8 → τ 10 j = nb (pr_q f n p i j).toNat) → (∃ k, k < 8 ∧ i ≤ pt_m f n (pt_w k) p) → (∀ k, k < 8 → pt_m f n (pt_w k) p = (pt_w k).length → i < (pt_w k).length) → pr_W f n p τ (f_X8_word_L25 N (nb i) (-1) τ) := by
  intro m
  induction m with
  | zero =>
    intro i N τ h1 h2 h h10 hex hno
    obtain ⟨k, hk, hm⟩ := hex
    have e1 := pt_mle f n (pt_w k) p
    obtain ⟨_, x2, x3, _⟩ := pt_wr k hk
    have := hno k hk (by omega)
    omega
  | succ m ih =>
    intro i N τ h1 h2 h h10 hex hno
    obtain ⟨N, rfl⟩ : ∃ k, N = k + 1 := ⟨N - 1, by omega⟩
    have hpi : p + i ≤ n := h.2.1
    have hp : p ≤ n := by omega
    obtain ⟨τ2, a1, a2, a3, a4⟩ := pr_41 (κ := fun z1' z2' σz' => f_X8_word_L25 N z1' z2' σz') (z2 := -1) (by omega : i ≤ 7) hpi 8 0 1000 τ (by decide) (by decide) h (fun j hj => by rw [h10 j hj, if_neg (Nat.not_lt_zero j)])
    have a1' : f_X8_word_L41 (fun z1' z2' σz' => f_X8_word_L25 N z1' z2' σz') 1000 (nb i) (-1) 0 0 τ = _ := a1
    rw [f_X8_word_L25, if_pos (by decide), h.2.2.2.2.1, if_pos rfl, a1']
    unfold f_X8_word_J140
    have g12 := a2.2.2.2.2.2.2.2
    have c22 := a2.2.2.1
    by_cases y : pr_y f n p (i + 1) 8 = true
    · obtain ⟨k, hk, hm⟩ := (pr_yE 8).mp y
      obtain ⟨_, x2, x3, x4, _⟩ := pt_wr k hk
      have hin : p + (i + 1) ≤ n := by
        have := pt_mpos (f := f) (n := n) (pt_w k) p (fun c hc => (x4 c hc).2.2) hp
        omega
      have hF : pr_F τ2 (sg_up (sg_up τ2 0 25 0) 0 22 (nb (p + i + 1))) := fun q k h1 _ => by rw [nb_up, if_neg (by omega), nb_up, if_neg (by omega)]
      have r25 : sg_up (sg_up τ2 0 25 0) 0 22 (nb (p + i + 1)) 0 25 = 0 := by rw [nb_up, if_neg (by omega), nb_upE]
      have r22 : sg_up τ2 0 25 0 0 22 = nb (p + i) := by rw [nb_up, if_neg (by omega)]; exact c22
      have hI : pr_I (sg_up (sg_up τ2 0 25 0) 0 22 (nb (p + i + 1))) f n (p + (i + 1)) := pr_Ix a2 hF (by rw [nb_upE, (by omega : p + i + 1 = p + (i + 1))]) r25 hin
      rw [y, if_pos rfl, nb_grd (by decide), nb_let, if_neg (by decide), r22, nb_succ, nb_let, nb_succ]
      have k167 := pr_167 (κ := fun z1' z2' σz' => f_X8_word_L25 N z1' z2' σz') (f := f) (n := n) (p := p) (i := i + 1) (τ := sg_up (sg_up τ2 0 25 0) 0 22 (nb (p + i + 1))) (by omega) (fun j hj => by rw [nb_up, if_neg (by omega), nb_up, if_neg (by omega), a4 j hj]) hI.2.2.2.2.2.2.2 8 0 1000 (by decide) (by decide)
      have k167' : f_X8_word_L167 (fun z1' z2' σz' => f_X8_word_L25 N z1' z2' σz') 1000 (nb (i + 1)) (-1) 0 (sg_up (sg_up τ2 0 25 0) 0 22 (nb (p + i + 1))) = _ := k167
      rw [k167']
      refine pr_Wt (pr_Ftr a3 hF) ?_
      by_cases co : ∃ j, j < 8 ∧ i + 1 ≤ pt_m f n (pt_w j) p ∧ (pt_w j).length = i + 1
      · obtain ⟨j, hj, hj1, hj2⟩ := co
        have ez := pr_zK 8 (Nat.le_refl 8) hj hj1 hj2
        obtain ⟨N, rfl⟩ : ∃ k, N = k + 1 := ⟨N - 1, by omega⟩
        show pr_W f n p _ (f_X8_word_L25 (N + 1) (nb (i + 1)) (pr_z f n p (i + 1) 8) _)
        rw [ez, f_X8_word_L25, if_neg (nb_nneg (by omega))]
        refine Or.inl ⟨j, _, hj, ?_, rfl, ?_, pr_Frf _⟩
        · have := pt_mle f n (pt_w j) p
          omega
        · rw [hj2]
          exact hI
      · have ez := pr_zE (f := f) (n := n) (p := p) (i := i + 1) 8 (fun j hj q => co ⟨j, hj, q⟩)
        show pr_W f n p _ (f_X8_word_L25 N (nb (i + 1)) (pr_z f n p (i + 1) 8) _)
        rw [ez]
        refine ih (i + 1) N _ (by omega) (by omega) hI (fun j hj => by rw [nb_up, if_neg (by omega), nb_up, if_neg (by omega), a4 j hj]) ⟨k, hk, hm⟩ (fun j hj q => ?_)
        have l1 := hno j hj q
        by_cases e : (pt_w j).length = i + 1
        · exact absurd ⟨j, hj, by omega, e⟩ co
        · omega
    · have yf : pr_y f n p (i + 1) 8 = false := by
        cases hb : pr_y f n p (i + 1) 8 with
        | false => rfl
        | true => exact absurd hb y
      have none1 : ∀ j, j < 8 → ¬ i + 1 ≤ pt_m f n (pt_w j) p := fun j hj q => y ((pr_yE 8).mpr ⟨j, hj, q⟩)
      have p0 : nb (p + i) + 0 = nb (p + i) := nb_add _ 0
      have r22 : sg_up τ2 0 25 1 0 22 = nb (p + i) := by rw [nb_up, if_neg (by omega)]; exact c22
      have r25 : sg_up (sg_up τ2 0 25 1) 0 22 (nb (p + i)) 0 25 = 1 := by rw [nb_up, if_neg (by omega), nb_upE]
      have hF : pr_F τ2 (sg_up (sg_up τ2 0 25 1) 0 22 (nb (p + i))) := fun q k h1 _ => by rw [nb_up, if_neg (by omega), nb_up, if_neg (by omega)]
      rw [yf, if_neg (by decide), nb_grd (by decide), nb_let, if_pos (by rfl), r22, p0, nb_let, nb_succ]
      have k167 := pr_167 (κ := fun z1' z2' σz' => f_X8_word_L25 N z1' z2' σz') (f := f) (n := n) (p := p) (i := i + 1) (τ := sg_up (sg_up τ2 0 25 1) 0 22 (nb (p + i))) (by omega) (fun j hj => by rw [nb_up, if_neg (by omega), nb_up, if_neg (by omega), a4 j hj]) (fun k hk => by rw [nb_up, if_neg (by omega), nb_up, if_neg (by omega)]; exact g12 k hk) 8 0 1000 (by decide) (by decide)
      have k167' : f_X8_word_L167 (fun z1' z2' σz' => f_X8_word_L25 N z1' z2' σz') 1000 (nb (i + 1)) (-1) 0 (sg_up (sg_up τ2 0 25 1) 0 22 (nb (p + i))) = _ := k167
      rw [k167']
      refine pr_Wt (pr_Ftr a3 hF) ?_
      have ez := pr_zE (f := f) (n := n) (p := p) (i := i + 1) 8 (fun j hj q => none1 j hj q.1)
      obtain ⟨N, rfl⟩ : ∃ k, N = k + 1 := ⟨N - 1, by omega⟩
      show pr_W f n p _ (f_X8_word_L25 (N + 1) (nb (i + 1)) (pr_z f n p (i + 1) 8) _)
      rw [ez, f_X8_word_L25, if_pos (by decide), r25, if_neg nb_10]
      obtain ⟨k, hk, hm⟩ := hex
      refine Or.inr ⟨i, _, fun j hj => ⟨?_, ?_⟩, ⟨k, hk, ?_⟩, rfl, nb_upE _ _ _ _, r25, pr_Frf _⟩
      · have := none1 j hj
        omega
      · have e1 := pt_mle f n (pt_w j) p
        have e2 := none1 j hj
        by_cases e : pt_m f n (pt_w j) p = (pt_w j).length
        · have := hno j hj e
          omega
        · omega
      · have := none1 k hk
        omega
theorem pr_word {f : Nat → Nat} {n p : Nat} {τ : sg_S} (h : pr_I τ f n p) : pr_W f n p τ (f_X8_word τ) := by
  obtain ⟨τ2, a, b, c, d⟩ := pr_12 8 0 1000 τ (by decide) (by decide) h (fun k hk => absurd hk (Nat.not_lt_zero k))
  have a' : f_X8_word τ = f_X8_word_L25 1000 0 (-1) τ2 := a
  rw [a']
  refine pr_Wt c ?_
  exact pr_25 (fun k hk => (b.2.2.2.2.2.1 k hk).2) 7 0 1000 τ2 (by decide) (by decide) b (fun j hj => by rw [d j hj]; rfl) ⟨0, by decide, Nat.zero_le _⟩ (fun k hk _ => by
    obtain ⟨_, x2, _⟩ := pt_wr k hk
    omega)
