/-! THE WHOLE INPUT, READ ALONE: both find the same commands, or stop at the same place -/
def pw_K (f : Nat → Nat) (n k p : Nat) : Prop := k < 8 ∧ (pt_o f n (pt_f k) p).1 = true ∧ ∀ j, j < 8 → j ≠ k → (pt_o f n (pt_f j) p).1 = false
def pw_S (f : Nat → Nat) (n : Nat) : List Nat → Nat → Prop
  | [], _ => False
  | k :: r, p => pw_K f n k p ∧ ((r = [] ∧ (pt_o f n (pt_f k) p).2 = n) ∨ ((pt_o f n (pt_f k) p).2 < n ∧ pt_h f n (pt_o f n (pt_f k) p).2 = 59 ∧ pw_S f n r ((pt_o f n (pt_f k) p).2 + 1)))
def pw_D (f : Nat → Nat) (n : Nat) (σ : sg_S) : Nat → List Nat → Nat → Prop
  | _, [], _ => True
  | i, k :: r, p => σ 3 i = nb k ∧ (∃ s, ∀ t, t < 3 → σ (5 + i) t = nb (pt_v f n (pt_f k) p 0 s t)) ∧ pw_D f n σ (i + 1) r ((pt_o f n (pt_f k) p).2 + 1)
def pw_G (i : Nat) (σ σ2 : sg_S) : Prop := ∀ q k, ¬ (q = 0 ∧ (k = 1 ∨ k = 2)) → ¬ (q = 3 ∧ i ≤ k) → q < 5 + i → σ2 q k = σ q k
theorem pw_len : ∀ k, k < 8 → 5 ≤ (pt_f k).length := by decide
theorem pw_wrong {N : Nat} {z : Int32} {τ : sg_S} (h : τ 0 25 = 1) : f_X8_commands_L16 (N + 1) z τ = some (z, τ) := by
  rw [f_X8_commands_L16, h, if_neg nb_10]
/-- the reference's row of commands, where a sign is missing -/
theorem pw_bad {N z : Nat} {τ : sg_S} {f : Nat → Nat} {n p : Nat} (h : pr_I τ f n p) (h0 : τ 0 0 = 0) (hp : p < n) (h59 : pt_h f n p ≠ 59) : ∃ τ2, f_X8_commands_L16 (N + 2) (nb z) τ = some (nb (z + 1), τ2) ∧ τ2 0 22 = nb p ∧ τ2 0 25 = 1 ∧ pr_F τ τ2 := by
  obtain ⟨a, b, c, d, e, g, i, j⟩ := id h
  have es := pr_seq (f := f) (n := n) (p := p) (x := 59) (fun hp => (g p hp).2) (by decide)
  have r25 : sg_up τ 0 25 1 0 25 = 1 := nb_upE _ _ _ _
  have r22 : sg_up τ 0 25 1 0 22 = nb p := by rw [nb_up, if_neg (by omega)]; exact c
  have p0 : nb p + 0 = nb p := nb_add p 0
  have r25b : sg_up (sg_up τ 0 25 1) 0 22 (nb p) 0 25 = 1 := by rw [nb_up, if_neg (by omega), r25]
  rw [f_X8_commands_L16, e, if_pos rfl, h0, if_pos rfl, c, d, if_pos (nb_lt_t hp (by omega)), pr_sg h, nb_bnd, if_neg (fun q => h59 (es.mp q.symm))]
  unfold f_X8_commands_J56
  rw [nb_grd (by decide), nb_let, r25, if_neg nb_10, r22]
  rw [f_X8_commands_J76, p0, nb_let, r25b, if_neg nb_10, nb_succ]
  exact ⟨_, pw_wrong r25b, nb_upE _ _ _ _, r25b, fun q k h1 _ => by rw [nb_up, if_neg (by omega), nb_up, if_neg (by omega)]⟩
/-- the reference's row of commands, where a sign is there -/
theorem pw_go {N z : Nat} {τ : sg_S} {f : Nat → Nat} {n p : Nat} (h : pr_I τ f n p) (h0 : τ 0 0 = 0) (hp : p < n) (h59 : pt_h f n p = 59) : ∃ τ2, f_X8_commands_L16 (N + 1) (nb z) τ = sg_bnd (f_X8_command τ2) (fun τ3 => f_X8_commands_L16 N (nb (z + 1)) τ3) ∧ pr_I τ2 f n (p + 1) ∧ pr_F τ τ2 := by
  obtain ⟨a, b, c, d, e, g, i, j⟩ := id h
  have es := pr_seq (f := f) (n := n) (p := p) (x := 59) (fun hp => (g p hp).2) (by decide)
  have r25 : sg_up τ 0 25 0 0 25 = 0 := nb_upE _ _ _ _
  have r22 : sg_up τ 0 25 0 0 22 = nb p := by rw [nb_up, if_neg (by omega)]; exact c
  have r25b : sg_up (sg_up τ 0 25 0) 0 22 (nb (p + 1)) 0 25 = 0 := by rw [nb_up, if_neg (by omega), r25]
  have hF : pr_F τ (sg_up (sg_up τ 0 25 0) 0 22 (nb (p + 1))) := fun q k h1 _ => by rw [nb_up, if_neg (by omega), nb_up, if_neg (by omega)]
  rw [f_X8_commands_L16, e, if_pos rfl, h0, if_pos rfl, c, d, if_pos (nb_lt_t hp (by omega)), pr_sg h, nb_bnd, if_pos (show pr_s f n p = 59 from (es.mpr h59).symm)]
  unfold f_X8_commands_J56
  rw [nb_grd (by decide), nb_let, r25, if_pos rfl, r22]
  rw [f_X8_commands_J76, nb_succ, nb_let, r25b, if_pos rfl, nb_succ]
  exact ⟨_, rfl, pr_Ix h hF (nb_upE _ _ _ _) r25b (by omega), hF⟩
/-- the end of the input -/
theorem pw_end {N z : Nat} {τ : sg_S} {f : Nat → Nat} {n : Nat} (h : pr_I τ f n n) : f_X8_commands_L16 (N + 1) (nb z) τ = some (nb z, τ) := by
  obtain ⟨a, b, c, d, e, g, i, j⟩ := id h
  rw [f_X8_commands_L16, e, if_pos rfl]
  by_cases h0 : τ 0 0 = 0
  · rw [if_pos h0, c, d, if_neg (nb_lt_f (by omega) (by omega))]
  · rw [if_neg h0]
theorem pw_79 {z1 z2 z3 z4 : Int32} {τ : sg_S} (h : τ 0 25 = 0) (h26 : τ 0 26 = 0) : f_X8_command_J79 z1 z2 z3 z4 τ = some τ := by
  unfold f_X8_command_J79
  rw [h, if_pos rfl, h26, if_pos rfl]
theorem pw_1 {f : Nat → Nat} {n : Nat} : ∀ (m i p N1 N2 : Nat) (σ τ : sg_S), i + m = 11 → m < N1 → m + 2 < N2 → pt_I σ f n p i → pr_I τ f n p → τ 0 26 = 0 → τ 0 0 = 0 → 6 * i ≤ p → ∃ b σ2 r τ2, f_X5_isWellFormed_J33 (fun z1' σz' => f_X5_isWellFormed_L12 N1 z1' σz') (nb i) σ = some (b, σ2) ∧ sg_bnd (f_X8_command τ) (fun τ3 => f_X8_commands_L16 N2 (nb (i + 1)) τ3) = some (r, τ2) ∧ pw_G i σ σ2 ∧ pr_F τ τ2 ∧ ((b = 0 ∧ τ2 0 25 = 1 ∧ ∃ M, M ≤ n ∧ σ2 0 1 = nb M ∧ τ2 0 22 = nb M) ∨ (b = 1 ∧ τ2 0 25 = 0 ∧ ∃ L, pw_S f n L p ∧ pw_D f n σ2 i L p ∧ σ2 0 2 = nb (i + L.length) ∧ i + L.length ≤ 11)) := by
  intro m
  induction m with
  | zero =>
    intro i p N1 N2 σ τ h1 h2 h3 hI hJ h26 h0 h6
    have := hI.1
    have := hI.2.1
    omega
  | succ m ih =>
    intro i p N1 N2 σ τ h1 h2 h3 hI hJ h26 h0 h6
    obtain ⟨N1, rfl⟩ : ∃ k, N1 = k + 1 := ⟨N1 - 1, by omega⟩
    obtain ⟨N2, rfl⟩ : ∃ k, N2 = k + 2 := ⟨N2 - 2, by omega⟩
    have hn := hI.1
    have hpn := hI.2.1
    rw [f_X5_isWellFormed_J33]
    obtain ⟨σ1, q, qG⟩ := pt_com (σ := σ) (p := p) (by omega : i < 12) hI
    have qG2 : pw_G i σ σ1 := fun q k h1 h2 h3 => qG q k h1 (by omega) (by omega)
    rcases pk_com hJ with ⟨k, hk, ok, uni, τ1, ec, hJ1, hF1⟩ | ⟨non, τ1, ec, c22, c25, hF1⟩
    · rcases q with ⟨k2, hk2, ok2, eq, hI1, e3, s, es⟩ | ⟨non2, _⟩
      · have ekk : k2 = k := by
          by_cases z : k2 = k
          · exact z
          · rw [uni k2 hk2 z] at ok2
            cases ok2
        subst ekk
        have l5 := pw_len k2 hk2
        have og := (pt_oge (f := f) (n := n) (pt_f k2) p).2 ok
        have en := hI1.2.1
        have t26 : τ1 0 26 = 0 := (hF1 0 26 (by omega) (by decide)).trans h26
        have t00 : τ1 0 0 = 0 := (hF1 0 0 (by omega) (by decide)).trans h0
        rw [eq, nb_bnd2, if_neg nb_10, qb_len hI1.2.2.2.1, nb_bnd, hI1.2.2.2.2.1, ec, pw_79 hJ1.2.2.2.2.1 t26, nb_bnd, nb_succ]
        by_cases fin : (pt_o f n (pt_f k2) p).2 = n
        · rw [if_pos (by rw [fin])]
          rw [fin] at hJ1
          rw [pw_end hJ1]
          exact ⟨1, σ1, _, τ1, rfl, rfl, qG2, hF1, Or.inr ⟨rfl, hJ1.2.2.2.2.1, [k2], ⟨⟨hk2, ok, uni⟩, Or.inl ⟨rfl, fin⟩⟩, ⟨e3, ⟨s, es⟩, trivial⟩, hI1.2.2.2.2.2, by show i + 1 ≤ 11; omega⟩⟩
        · have ltn : (pt_o f n (pt_f k2) p).2 < n := by omega
          rw [if_neg (nb_ne fin (by omega) (by omega)), f_X5_isWellFormed_L12, if_pos (show nb (i + 1) < (12 : Int32) from nb_lt_t (b := 12) (by omega) (by decide)), if_pos (nb_pos (by omega) (by omega))]
          have sg := pt_sign (x := 59) hI1 (by decide)
          have sg' : f_X5_isSignTaken 59 σ1 = _ := sg
          rw [sg']
          by_cases semi : pt_h f n (pt_o f n (pt_f k2) p).2 = 59
          · rw [if_pos semi, nb_bnd2, if_neg nb_10]
            obtain ⟨τ4, d1, d2, d3⟩ := pw_go (N := N2 + 1) (z := i + 1) hJ1 t00 ltn semi
            rw [d1]
            have hI2 : pt_I (sg_up σ1 0 1 (nb ((pt_o f n (pt_f k2) p).2 + 1))) f n ((pt_o f n (pt_f k2) p).2 + 1) (i + 1) := pt_Ix hI1 (pt_up _) (nb_upE _ _ _ _) (by omega)
            obtain ⟨b, σ2, r, τ2, x1, x2, x3, x4, x5⟩ := ih (i + 1) ((pt_o f n (pt_f k2) p).2 + 1) N1 (N2 + 1) _ τ4 (by omega) (by omega) (by omega) hI2 d2 ((d3 0 26 (by omega) (by decide)).trans t26) ((d3 0 0 (by omega) (by decide)).trans t00) (by omega)
            have x1' : f_X5_isWellFormed_J33 (fun z1' σz' => f_X5_isWellFormed_L12 N1 z1' σz') (nb (i + 1)) (sg_up σ1 0 1 (nb ((pt_o f n (pt_f k2) p).2 + 1))) = some (b, σ2) := x1
            rw [x1', x2]
            have G2 : pw_G i σ σ2 := fun q k h1 h2 h3 => by rw [x3 q k h1 (by omega) (by omega), nb_up, if_neg (by omega), qG2 q k h1 h2 h3]
            refine ⟨b, σ2, r, τ2, rfl, rfl, G2, pr_Ftr hF1 (pr_Ftr d3 x4), ?_⟩
            rcases x5 with ⟨y1, y2, y3⟩ | ⟨y1, y2, L, y3, y4, y5, y6⟩
            · exact Or.inl ⟨y1, y2, y3⟩
            · refine Or.inr ⟨y1, y2, k2 :: L, ⟨⟨hk2, ok, uni⟩, Or.inr ⟨ltn, semi, y3⟩⟩, ⟨?_, ⟨s, fun t ht => ?_⟩, y4⟩, ?_, ?_⟩
              · rw [x3 3 i (by omega) (by omega) (by omega), nb_up, if_neg (by omega)]
                exact e3
              · rw [x3 (5 + i) t (by omega) (by omega) (by omega), nb_up, if_neg (by omega)]
                exact es t ht
              · rw [y5]
                congr 1
                show i + 1 + L.length = i + (L.length + 1)
                omega
              · show i + (L.length + 1) ≤ 11
                omega
          · rw [if_neg semi, nb_bnd2, if_pos rfl]
            obtain ⟨τ4, d1, d2, d3, d4⟩ := pw_bad (N := N2) (z := i + 1) hJ1 t00 ltn semi
            rw [d1]
            exact ⟨0, σ1, _, τ4, rfl, rfl, qG2, pr_Ftr hF1 d4, Or.inl ⟨rfl, d3, _, en, hI1.2.2.2.2.1, d2⟩⟩
      · rw [non2 k hk] at ok
        cases ok
    · rcases q with ⟨k2, hk2, ok2, _⟩ | ⟨non2, eq, hI1⟩
      · rw [non k2 hk2] at ok2
        cases ok2
      · rw [eq, nb_bnd2, if_pos rfl, ec, nb_bnd, pw_wrong c25]
        exact ⟨0, σ1, _, τ1, rfl, rfl, qG2, hF1, Or.inl ⟨rfl, c25, _, hI1.2.1, hI1.2.2.2.2.1, c22⟩⟩
