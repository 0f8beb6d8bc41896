/-! THE INPUT READ: the reference's way -/
def pr_l (k : Nat) : Nat := ([116, 114, 101, 97, 116, 121, 32, 101, 110, 100, 32, 99, 114, 101, 100, 105, 116, 32, 114, 101, 112, 97, 121, 32, 114, 97, 105, 110, 32, 98, 97, 105, 108, 32, 98, 117, 121, 32, 109, 111, 110, 116, 104] : List Nat).getD k 0
def pr_a (k : Nat) : Nat := ([0, 7, 11, 18, 24, 29, 34, 38, 43] : List Nat).getD k 0
theorem pr_wd : ∀ k, k < 8 → pr_a (k + 1) = pr_a k + (pt_w k).length ∧ pr_a (k + 1) ≤ 43 ∧ ∀ i, i < (pt_w k).length → pr_l (pr_a k + i) = (pt_w k).getD i 0 := by decide +kernel
def pr_I (τ : sg_S) (f : Nat → Nat) (n p : Nat) : Prop := n ≤ 60 ∧ p ≤ n ∧ τ 0 22 = nb p ∧ τ 0 23 = nb n ∧ τ 0 25 = 0 ∧ (∀ k, k < n → τ 8 k = nb (f k) ∧ f k ≤ 127) ∧ (∀ k, k < 43 → τ 11 k = nb (pr_l k)) ∧ ∀ k, k < 9 → τ 12 k = nb (pr_a k)
def pr_F (τ τ2 : sg_S) : Prop := ∀ q k, ¬ (q = 0 ∧ (k = 22 ∨ k = 25)) → q ≠ 10 → τ2 q k = τ q k
theorem pr_Frf (τ : sg_S) : pr_F τ τ := fun _ _ _ _ => rfl
theorem pr_Ftr {a b d : sg_S} (h : pr_F a b) (h2 : pr_F b d) : pr_F a d := fun q k h3 h4 => (h2 q k h3 h4).trans (h q k h3 h4)
theorem pr_Ix {τ τ2 : sg_S} {f : Nat → Nat} {n p p2 : Nat} (h : pr_I τ f n p) (hF : pr_F τ τ2) (h1 : τ2 0 22 = nb p2) (h2 : τ2 0 25 = 0) (hp : p2 ≤ n) : pr_I τ2 f n p2 := by
  obtain ⟨a, b, c, d, e, g, i, j⟩ := h
  exact ⟨a, hp, h1, (hF _ _ (by omega) (by decide)).trans d, h2, fun k hk => ⟨(hF _ _ (by omega) (by decide)).trans (g k hk).1, (g k hk).2⟩, fun k hk => (hF _ _ (by omega) (by decide)).trans (i k hk), fun k hk => (hF _ _ (by omega) (by decide)).trans (j k hk)⟩
def pr_s (f : Nat → Nat) (n p : Nat) : Int32 := if p < n then nb (f p) else -1
theorem pr_sg {τ : sg_S} {f : Nat → Nat} {n p : Nat} (h : pr_I τ f n p) : f_X8_sign τ = some (pr_s f n p) := by
  obtain ⟨a, b, c, d, e, g, i, j⟩ := h
  unfold f_X8_sign pr_s
  rw [c, d]
  by_cases hp : p < n
  · rw [if_pos (nb_lt_t hp (by omega)), if_pos hp, nb_grd (nb_in (by omega) (by decide)), nb_tn (by omega), (g p hp).1]
  · rw [if_neg (nb_lt_f (by omega) (by omega)), if_neg hp]
theorem pr_seq {f : Nat → Nat} {n p x : Nat} (hf : p < n → f p ≤ 127) (hx : x ≤ 127) : nb x = pr_s f n p ↔ pt_h f n p = x := by
  unfold pr_s pt_h
  by_cases hp : p < n
  · rw [if_pos hp, if_pos hp, nb_eq (by omega) (by have := hf hp; omega)]
    exact eq_comm
  · rw [if_neg hp, if_neg hp]
    constructor
    · intro q
      exact absurd q.symm (nb_neg (by omega))
    · intro q
      omega
theorem pr_sdg {f : Nat → Nat} {n p : Nat} (hf : p < n → f p ≤ 127) : f_X8_isIn (pr_s f n p) 48 57 = some (if 48 ≤ pt_h f n p ∧ pt_h f n p ≤ 57 then 1 else 0) := by
  unfold pr_s pt_h f_X8_isIn
  by_cases hp : p < n
  · have := hf hp
    rw [if_pos hp, if_pos hp]
    by_cases c1 : 48 ≤ f p
    · rw [if_pos (show (48 : Int32) ≤ nb (f p) from nb_le_t (a := 48) c1 (by omega))]
      by_cases c2 : f p ≤ 57
      · rw [if_pos (show nb (f p) ≤ (57 : Int32) from nb_le_t (b := 57) c2 (by decide)), if_pos ⟨c1, c2⟩]
      · rw [if_neg (show ¬ nb (f p) ≤ (57 : Int32) from nb_le_f (b := 57) (by omega) (by omega)), if_neg (fun q => c2 q.2)]
    · rw [if_neg (show ¬ (48 : Int32) ≤ nb (f p) from nb_le_f (a := 48) (by omega) (by decide)), if_neg (fun q => c1 q.1)]
  · rw [if_neg hp, if_neg hp, if_neg (by decide), if_neg (by omega)]
/-- a step of the reading, good or bad -/
def pr_E (ok : Prop) (τ τ2 : sg_S) (n p2 : Nat) : Prop := τ2 0 22 = nb p2 ∧ (ok → τ2 0 25 = 0) ∧ (¬ ok → τ2 0 25 = 1) ∧ p2 ≤ n ∧ pr_F τ τ2
theorem pr_59 {τ : sg_S} {f : Nat → Nat} {n p v d : Nat} {x : Int32} (h : pr_I τ f n p) (hd : d < 1000) : ∃ τ2, f_X8_digits_J59 x (nb v) (nb d) τ = some (nb v, τ2) ∧ pr_E (d ≠ 0) τ τ2 n p := by
  obtain ⟨a, b, c, d2, e, g, i, j⟩ := h
  unfold f_X8_digits_J59
  rw [e]
  by_cases z : d = 0
  · rw [z, if_pos (show nb 0 = 0 from rfl), nb_grd (by decide), nb_let]
    exact ⟨_, rfl, by rw [nb_up, if_neg (by omega)]; exact c, fun q => absurd rfl q, fun _ => by rw [nb_upE]; decide, b, fun q k h1 _ => by rw [nb_up, if_neg (by omega)]⟩
  · rw [if_neg (show ¬ nb d = 0 from nb_ne (b := 0) z (by omega) (by decide)), nb_grd (by decide), nb_let]
    exact ⟨_, rfl, by rw [nb_up, if_neg (by omega)]; exact c, fun _ => by rw [nb_upE]; decide, fun q => absurd z q, b, fun q k h1 _ => by rw [nb_up, if_neg (by omega)]⟩
theorem pr_d4 {f : Nat → Nat} {n M : Nat} (hM : M ≤ 2) : ∀ (m d p v N : Nat) (τ : sg_S), d + m = M → m < N → pr_I τ f n p → ∃ τ2, f_X8_digits_L4 (nb M) N (nb v) (nb d) τ = some (nb (pt_d f n m p v).1, τ2) ∧ pr_E (d + (pt_d f n m p v).2 ≠ 0) τ τ2 n (p + (pt_d f n m p v).2) := by
  intro m
  induction m with
  | zero =>
    intro d p v N τ h1 h2 h
    obtain ⟨N, rfl⟩ : ∃ k, N = k + 1 := ⟨N - 1, by omega⟩
    obtain ⟨τ2, a1, a2⟩ := pr_59 (x := nb M) (v := v) (d := d) h (by omega)
    rw [f_X8_digits_L4, h.2.2.2.2.1, if_pos rfl, if_neg (nb_lt_f (by omega) (by omega)), a1]
    exact ⟨τ2, rfl, a2⟩
  | succ m ih =>
    intro d p v N τ h1 h2 h
    obtain ⟨N, rfl⟩ : ∃ k, N = k + 1 := ⟨N - 1, by omega⟩
    have h0 := h
    obtain ⟨a, b, c, d2, e, g, i, j⟩ := h
    rw [f_X8_digits_L4, e, if_pos rfl, if_pos (nb_lt_t (by omega) (by omega)), pr_sg h0, nb_bnd, pr_sdg (fun hp => (g p hp).2), nb_bnd]
    by_cases c1 : 48 ≤ pt_h f n p ∧ pt_h f n p ≤ 57
    · have hp : p < n := by
        by_cases hp : p < n
        · exact hp
        · have q1 : pt_h f n p = 999 := if_neg hp
          omega
      have eh : pt_h f n p = f p := if_pos hp
      have es : pr_s f n p = nb (f p) := if_pos hp
      have ev : (10 : Int32) * nb v + nb (f p) - 48 = nb (10 * v + pt_h f n p - 48) := by
        rw [show (10 : Int32) * nb v = nb (10 * v) from nb_mul 10 v, nb_add, eh]
        exact nb_sub (b := 48) (by omega)
      rw [if_pos c1, if_neg nb_10, nb_bnd, es, ev, nb_let, c, nb_succ, nb_let, nb_succ]
      have hF : pr_F τ (sg_up τ 0 22 (nb (p + 1))) := fun q k h1 _ => by rw [nb_up, if_neg (by omega)]
      obtain ⟨τ2, a1, b1, b2, b3, b4, b5⟩ := ih (d + 1) (p + 1) (10 * v + pt_h f n p - 48) N _ (by omega) (by omega) (pr_Ix h0 hF (nb_upE _ _ _ _) (by rw [nb_up, if_neg (by omega)]; exact e) (by omega))
      have ed : pt_d f n (m + 1) p v = ((pt_d f n m (p + 1) (10 * v + pt_h f n p - 48)).1, (pt_d f n m (p + 1) (10 * v + pt_h f n p - 48)).2 + 1) := by rw [pt_d, if_pos c1]
      rw [ed]
      refine ⟨τ2, a1, ?_, fun q => b2 (by omega), fun q => absurd (show d + ((pt_d f n m (p + 1) (10 * v + pt_h f n p - 48)).2 + 1) ≠ 0 by omega) q, ?_, pr_Ftr hF b5⟩
      · show τ2 0 22 = nb (p + ((pt_d f n m (p + 1) (10 * v + pt_h f n p - 48)).2 + 1))
        rw [(by omega : p + ((pt_d f n m (p + 1) (10 * v + pt_h f n p - 48)).2 + 1) = p + 1 + (pt_d f n m (p + 1) (10 * v + pt_h f n p - 48)).2)]
        exact b1
      · show p + ((pt_d f n m (p + 1) (10 * v + pt_h f n p - 48)).2 + 1) ≤ n
        omega
    · obtain ⟨τ2, a1, a2⟩ := pr_59 (x := nb M) (v := v) (d := d) h0 (by omega)
      have ed : pt_d f n (m + 1) p v = (v, 0) := by rw [pt_d, if_neg c1]
      rw [if_neg c1, if_pos rfl, ed]
      exact ⟨τ2, a1, a2⟩
theorem pr_dg {f : Nat → Nat} {n p M : Nat} {τ : sg_S} (hM : M ≤ 2) (h : pr_I τ f n p) : ∃ τ2, f_X8_digits (nb M) τ = some (nb (pt_d f n M p 0).1, τ2) ∧ pr_E ((pt_d f n M p 0).2 ≠ 0) τ τ2 n (p + (pt_d f n M p 0).2) := by
  obtain ⟨τ2, a1, a2⟩ := pr_d4 hM M 0 p 0 1000 τ (by omega) (by omega) h
  rw [Nat.zero_add] at a2
  exact ⟨τ2, a1, a2⟩
theorem pr_bw {τ : sg_S} {x : Int32} (h : τ 0 25 = 1) : f_X8_blankAnd x τ = some (0, τ) := by
  unfold f_X8_blankAnd
  rw [h, if_neg nb_10]
theorem pr_bl {f : Nat → Nat} {n p M : Nat} {τ : sg_S} (hM : M ≤ 2) (h : pr_I τ f n p) : ∃ τ2 v, f_X8_blankAnd (nb M) τ = some (nb v, τ2) ∧ (pt_h f n p = 32 → v = (pt_d f n M (p + 1) 0).1 ∧ pr_E ((pt_d f n M (p + 1) 0).2 ≠ 0) τ τ2 n (p + 1 + (pt_d f n M (p + 1) 0).2)) ∧ (pt_h f n p ≠ 32 → pr_E False τ τ2 n p) := by
  have h0 := h
  obtain ⟨a, b, c, d2, e, g, i, j⟩ := h
  have eq32 : pr_s f n p = 32 ↔ pt_h f n p = 32 := by
    have := pr_seq (f := f) (n := n) (p := p) (x := 32) (fun hp => (g p hp).2) (by decide)
    rw [eq_comm]
    exact this
  unfold f_X8_blankAnd
  rw [e, if_pos rfl, pr_sg h0, nb_bnd]
  by_cases z : pt_h f n p = 32
  · have hp : p < n := by
      by_cases hp : p < n
      · exact hp
      · have q1 : pt_h f n p = 999 := if_neg hp
        omega
    have r25 : sg_up τ 0 25 0 0 25 = 0 := nb_upE _ _ _ _
    have r22 : sg_up τ 0 25 0 0 22 = nb p := by rw [nb_up, if_neg (by omega)]; exact c
    have r25b : sg_up (sg_up τ 0 25 0) 0 22 (nb (p + 1)) 0 25 = 0 := by rw [nb_up, if_neg (by omega), r25]
    have hF : pr_F τ (sg_up (sg_up τ 0 25 0) 0 22 (nb (p + 1))) := fun q k h1 _ => by rw [nb_up, if_neg (by omega), nb_up, if_neg (by omega)]
    rw [if_pos (eq32.mpr z)]
    unfold f_X8_blankAnd_J24
    rw [nb_grd (by decide), nb_let, r25, if_pos rfl, r22]
    unfold f_X8_blankAnd_J44
    rw [nb_succ, nb_let, r25b, if_pos rfl]
    obtain ⟨τ2, a1, a2, a3, a4, a5, a6⟩ := pr_dg (M := M) hM (pr_Ix h0 hF (nb_upE _ _ _ _) r25b (by omega))
    rw [a1, nb_bnd2]
    exact ⟨τ2, _, rfl, fun _ => ⟨rfl, a2, a3, a4, a5, pr_Ftr hF a6⟩, fun q => absurd z q⟩
  · have r25 : sg_up τ 0 25 1 0 25 = 1 := nb_upE _ _ _ _
    have r22 : sg_up τ 0 25 1 0 22 = nb p := by rw [nb_up, if_neg (by omega)]; exact c
    have p0 : nb p + 0 = nb p := nb_add p 0
    have r25b : sg_up (sg_up τ 0 25 1) 0 22 (nb p) 0 25 = 1 := by rw [nb_up, if_neg (by omega), r25]
    rw [if_neg (fun q => z (eq32.mp q))]
    unfold f_X8_blankAnd_J24
    rw [nb_grd (by decide), nb_let, r25, if_neg nb_10, r22]
    unfold f_X8_blankAnd_J44
    rw [p0, nb_let, r25b, if_neg nb_10]
    exact ⟨_, 0, rfl, fun q => absurd q z, fun _ => ⟨nb_upE _ _ _ _, fun q => q.elim, fun _ => r25b, b, fun q k h1 _ => by rw [nb_up, if_neg (by omega), nb_up, if_neg (by omega)]⟩⟩
/-! the word, letter by letter -/
theorem pr_12 {f : Nat → Nat} {n p : Nat} : ∀ (m i N : Nat) (τ : sg_S), i + m = 8 → m < N → pr_I τ f n p → (∀ k, k < i → τ 10 k = 1) → ∃ τ2, f_X8_word_L2 N (nb i) τ = f_X8_word_L25 1000 0 (-1) τ2 ∧ pr_I τ2 f n p ∧ pr_F τ τ2 ∧ ∀ k, k < 8 → τ2 10 k = 1 := by
  intro m
  induction m with
  | zero =>
    intro i N τ h1 h2 h h10
    obtain ⟨N, rfl⟩ : ∃ k, N = k + 1 := ⟨N - 1, by omega⟩
    have e : i = 8 := by omega
    subst e
    rw [f_X8_word_L2, if_neg (show ¬ nb 8 < (8 : Int32) by decide)]
    exact ⟨τ, rfl, h, pr_Frf τ, h10⟩
  | succ m ih =>
    intro i N τ h1 h2 h h10
    obtain ⟨N, rfl⟩ : ∃ k, N = k + 1 := ⟨N - 1, by omega⟩
    rw [f_X8_word_L2, if_pos (show nb i < (8 : Int32) from nb_lt_t (b := 8) (by omega) (by decide)), nb_grd (nb_i8 (by omega)), nb_t8 (by omega), nb_let, nb_succ]
    have hF : pr_F τ (sg_up τ 10 i 1) := fun q k h1 h2 => by rw [nb_up, if_neg (by omega)]
    obtain ⟨τ2, a, b, c, d⟩ := ih (i + 1) N _ (by omega) (by omega) (pr_Ix h hF (by rw [nb_up, if_neg (by omega)]; exact h.2.2.1) (by rw [nb_up, if_neg (by omega)]; exact h.2.2.2.2.1) h.2.1) (fun k hk => by
      rw [nb_up]
      by_cases e : (10 : Nat) = 10 ∧ k = i
      · rw [if_pos e]
      · rw [if_neg e]
        exact h10 k (by omega))
    exact ⟨τ2, a, b, pr_Ftr hF c, d⟩
def pr_b (b : Bool) : Int32 := nb b.toNat
/-- is a letter more of the word k there -/
def pr_q (f : Nat → Nat) (n p i k : Nat) : Bool := decide (i ≤ pt_m f n (pt_w k) p)
def pr_y (f : Nat → Nat) (n p i : Nat) : Nat → Bool
  | 0 => false
  | k + 1 => pr_y f n p i k || pr_q f n p i k
theorem pr_and : ∀ a b : Bool, nb a.toNat &&& (if b = true then 1 else 0) = nb (a && b).toNat := by decide
theorem pr_41 {κ : Int32 → Int32 → sg_S → Option (Int32 × sg_S)} {f : Nat → Nat} {n p i : Nat} {z2 : Int32} (hi : i ≤ 7) (hpi : p + i ≤ n) : ∀ (m k N : Nat) (τ : sg_S), k + m = 8 → m < N → pr_I τ f n (p + i) → (∀ j, j < 8 → τ 10 j = nb (if j < k then pr_q f n p (i + 1) j else pr_q f n p i j).toNat) → ∃ τ2, f_X8_word_L41 κ N (nb i) z2 (nb (pr_y f n p (i + 1) k).toNat) (nb k) τ = f_X8_word_J140 κ (nb i) z2 (nb (pr_y f n p (i + 1) 8).toNat) (if pr_y f n p (i + 1) 8 = true then 0 else 1) τ2 ∧ pr_I τ2 f n (p + i) ∧ pr_F τ τ2 ∧ ∀ j, j < 8 → τ2 10 j = nb (pr_q f n p (i + 1) j).toNat := by
  intro m
  induction m with
  | zero =>
    intro k N τ h1 h2 h h10
    obtain ⟨N, rfl⟩ : ∃ k, N = k + 1 := ⟨N - 1, by omega⟩
    have e : k = 8 := by omega
    subst e
    rw [f_X8_word_L41, if_neg (show ¬ nb 8 < (8 : Int32) by decide)]
    refine ⟨τ, ?_, h, pr_Frf τ, fun j hj => ?_⟩
    · cases hb : pr_y f n p (i + 1) 8 with
      | false => rw [if_pos (by rfl), if_neg (by decide)]
      | true => rw [if_neg (by decide), if_pos rfl]
    · rw [h10 j hj, if_pos hj]
  | succ m ih =>
    intro k N τ h1 h2 h h10
    obtain ⟨N, rfl⟩ : ∃ k, N = k + 1 := ⟨N - 1, by omega⟩
    have hk : k < 8 := by omega
    have h0 := h
    obtain ⟨a, b, c, d2, e, g, hl, ha⟩ := h
    obtain ⟨w1, w2, w3⟩ := pr_wd k hk
    obtain ⟨x1, x2, x3, x4, x5, x6⟩ := pt_wr k hk
    have ha1 := ha k (by omega)
    have ha2 := ha (k + 1) (by omega)
    have o10 : τ 10 k = nb (pr_q f n p i k).toNat := by
      rw [h10 k hk, if_neg (by omega)]
    have J : ∀ b : Bool, (pr_q f n p i k && b) = pr_q f n p (i + 1) k → ∃ τ2, f_X8_word_J103 κ (fun z1' z2' z3' z4' σz' => f_X8_word_L41 κ N z1' z2' z3' z4' σz') (nb i) z2 (nb (pr_y f n p (i + 1) k).toNat) (nb k) (if b = true then 1 else 0) (nb (pr_q f n p i k).toNat) (nb k) τ = f_X8_word_L41 κ N (nb i) z2 (nb (pr_y f n p (i + 1) (k + 1)).toNat) (nb (k + 1)) τ2 ∧ pr_I τ2 f n (p + i) ∧ pr_F τ τ2 ∧ ∀ j, j < 8 → τ2 10 j = nb (if j < k + 1 then pr_q f n p (i + 1) j else pr_q f n p i j).toNat := by
      intro b hb
      have hF : pr_F τ (sg_up τ 10 k (nb (pr_q f n p (i + 1) k).toNat)) := fun q k h1 h2 => by rw [nb_up, if_neg (by omega)]
      refine ⟨sg_up τ 10 k (nb (pr_q f n p (i + 1) k).toNat), ?_, pr_Ix h0 hF (by rw [nb_up, if_neg (by omega)]; exact c) (by rw [nb_up, if_neg (by omega)]; exact e) hpi, hF, fun j hj => ?_⟩
      · unfold f_X8_word_J103
        rw [nb_grd (nb_i8 hk), nb_t8 hk, pr_and, hb, nb_let, nb_grd (nb_i8 hk), nb_upE, pr_y, nb_succ]
        cases hq : pr_q f n p (i + 1) k with
        | true => rw [if_pos (by rfl), nb_or1, nb_let]
        | false => rw [if_neg (by decide), nb_or0, nb_let]
      · rw [nb_up]
        by_cases z : (10 : Nat) = 10 ∧ j = k
        · rw [if_pos z, z.2, if_pos (by omega)]
        · rw [if_neg z, h10 j hj]
          by_cases y : j < k
          · rw [if_pos y, if_pos (by omega)]
          · rw [if_neg y, if_neg (by omega)]
    have fin : ∀ τ2, pr_I τ2 f n (p + i) → pr_F τ τ2 → (∀ j, j < 8 → τ2 10 j = nb (if j < k + 1 then pr_q f n p (i + 1) j else pr_q f n p i j).toNat) → ∃ τ3, f_X8_word_L41 κ N (nb i) z2 (nb (pr_y f n p (i + 1) (k + 1)).toNat) (nb (k + 1)) τ2 = f_X8_word_J140 κ (nb i) z2 (nb (pr_y f n p (i + 1) 8).toNat) (if pr_y f n p (i + 1) 8 = true then 0 else 1) τ3 ∧ pr_I τ3 f n (p + i) ∧ pr_F τ τ3 ∧ ∀ j, j < 8 → τ3 10 j = nb (pr_q f n p (i + 1) j).toNat := fun τ2 q1 q2 q3 => by
      obtain ⟨τ3, r1, r2, r3, r4⟩ := ih (k + 1) N τ2 (by omega) (by omega) q1 q3
      exact ⟨τ3, r1, r2, pr_Ftr q2 r3, r4⟩
    have st := pt_mst f n (pt_w k) p i
    rw [f_X8_word_L41, if_pos (show nb k < (8 : Int32) from nb_lt_t (b := 8) hk (by decide)), nb_grd (nb_i8 hk), nb_grd (nb_in (by omega) (by decide)), nb_succ, nb_grd (nb_in (by omega) (by decide)), nb_t8 hk, nb_tn (a := k + 1) (by omega), ha1, ha2, nb_add, o10]
    by_cases l : i < (pt_w k).length
    · rw [if_pos (nb_lt_t (by omega) (by omega)), nb_grd (nb_in (by omega) (by decide)), pr_sg h0, nb_bnd, nb_tn (a := pr_a k + i) (by omega), hl _ (by omega), w3 i l]
      have hx : (pt_w k).getD i 0 ≤ 127 := by
        have hm : (pt_w k).getD i 0 ∈ pt_w k := by
          rw [List.getD_eq_getElem?_getD, List.getElem?_eq_getElem l]
          exact List.getElem_mem l
        exact (x4 _ hm).2.2
      have es := pr_seq (f := f) (n := n) (p := p + i) (x := (pt_w k).getD i 0) (fun hp => (g _ hp).2) hx
      by_cases z : pt_h f n (p + i) = (pt_w k).getD i 0
      · rw [if_pos (es.mpr z)]
        obtain ⟨τ2, q1, q2, q3, q4⟩ := J true (by
          rw [Bool.and_true]
          unfold pr_q
          exact decide_eq_decide.mpr ⟨fun h => st.mpr ⟨h, l, z.symm⟩, fun h => by omega⟩)
        rw [if_pos rfl] at q1
        rw [q1]
        exact fin τ2 q2 q3 q4
      · rw [if_neg (fun q => z (es.mp q))]
        obtain ⟨τ2, q1, q2, q3, q4⟩ := J false (by
          rw [Bool.and_false]
          unfold pr_q
          exact (decide_eq_false (fun h => z (st.mp h).2.2.symm)).symm)
        rw [if_neg (by decide)] at q1
        unfold f_X8_word_J102
        rw [q1]
        exact fin τ2 q2 q3 q4
    · rw [if_neg (nb_lt_f (by omega) (by omega))]
      obtain ⟨τ2, q1, q2, q3, q4⟩ := J false (by
        rw [Bool.and_false]
        unfold pr_q
        exact (decide_eq_false (fun h => l (st.mp h).2.1)).symm)
      rw [if_neg (by decide)] at q1
      unfold f_X8_word_J102
      rw [q1]
      exact fin τ2 q2 q3 q4
