/-! A COMMAND OF THE INPUT: the class tries all forms; words -/
def pt_g (f : Nat → Nat) (n p : Nat) : Nat → Nat
  | 0 => p
  | i + 1 => if pt_g f n p i < (pt_o f n (pt_f i) p).2 then (pt_o f n (pt_f i) p).2 else pt_g f n p i
def pt_G (c : Nat) (σ σ2 : sg_S) : Prop := ∀ q k, ¬ (q = 0 ∧ (k = 1 ∨ k = 2)) → ¬ (q = 3 ∧ k = c) → q ≠ 5 + c → σ2 q k = σ q k
theorem pt_GF {c : Nat} {σ σ2 : sg_S} (h : pt_F c σ σ2) : pt_G c σ σ2 := fun q k h1 _ h5 => h q k (by omega) h5
theorem pt_Gtr {c : Nat} {a b d : sg_S} (h : pt_G c a b) (h2 : pt_G c b d) : pt_G c a d := fun q k h3 h4 h5 => (h2 q k h3 h4 h5).trans (h q k h3 h4 h5)
theorem pt_fo : ∀ k, k < 8 → f_X5_formOf (nb k) = some k := by decide +kernel
theorem pt_cl {f : Nat → Nat} {n c p : Nat} (hc : c < 12) (hp : p ≤ n) : ∀ (m i N : Nat) (σ : sg_S) (p0 : Nat), i + m = 8 → m < N → pt_I σ f n p0 c → pt_g f n p i ≤ n → ∃ σ2, ((∃ k, i ≤ k ∧ k < 8 ∧ (∀ j, i ≤ j → j < k → (pt_o f n (pt_f j) p).1 = false) ∧ (pt_o f n (pt_f k) p).1 = true ∧ f_X5_isCommandTaken_L12 N (nb p) (nb (pt_g f n p i)) (nb i) σ = some (1, σ2) ∧ pt_I σ2 f n (pt_o f n (pt_f k) p).2 (c + 1) ∧ σ2 3 c = nb k ∧ ∃ s, ∀ t, t < 3 → σ2 (5 + c) t = nb (pt_v f n (pt_f k) p 0 s t)) ∨ ((∀ j, i ≤ j → j < 8 → (pt_o f n (pt_f j) p).1 = false) ∧ f_X5_isCommandTaken_L12 N (nb p) (nb (pt_g f n p i)) (nb i) σ = some (0, σ2) ∧ pt_I σ2 f n (pt_g f n p 8) c)) ∧ pt_G c σ σ2 := by
  intro m
  induction m with
  | zero =>
    intro i N σ p0 h1 h2 h hg
    obtain ⟨N, rfl⟩ : ∃ k, N = k + 1 := ⟨N - 1, by omega⟩
    have e : i = 8 := by omega
    subst e
    rw [f_X5_isCommandTaken_L12, if_neg (show ¬ nb 8 < (8 : Int32) by decide), nb_let]
    exact ⟨_, Or.inr ⟨fun j h3 h4 => absurd h4 (by omega), rfl, pt_Ix h (pt_up _) (nb_upE _ _ _ _) hg⟩, pt_GF (pt_up _)⟩
  | succ m ih =>
    intro i N σ p0 h1 h2 h hg
    obtain ⟨N, rfl⟩ : ∃ k, N = k + 1 := ⟨N - 1, by omega⟩
    have hi : i < 8 := by omega
    have hI4 : pt_I (sg_up σ 0 1 (nb p)) f n p c := pt_Ix h (pt_up _) (nb_upE _ _ _ _) hp
    have e2 : sg_up σ 0 1 (nb p) 0 2 = nb c := hI4.2.2.2.2.2
    obtain ⟨σ2, a1, a2, a3, a4⟩ := pt_form (s := fun t => (sg_up σ 0 1 (nb p) (5 + c) t).toBitVec.toNat) hi hc hI4 (fun t _ => (Int32.ofNat_bitVecToNat _).symm)
    have hF : pt_F c σ σ2 := pt_Ftr (pt_up _) a3
    rw [f_X5_isCommandTaken_L12, if_pos (show nb i < (8 : Int32) from nb_lt_t (b := 8) hi (by decide)), nb_let, e2, if_pos (show nb c < (12 : Int32) from nb_lt_t (b := 12) hc (by decide)), pt_fo i hi, nb_bnd, nb_grd (decide_eq_true hi), a1, nb_bnd2]
    by_cases ok : (pt_o f n (pt_f i) p).1 = true
    · have e3 : σ2 0 2 = nb c := a2.2.2.2.2.2
      have e4 : sg_up σ2 3 c (nb i) 0 2 = nb c := by rw [nb_up, if_neg (by omega), e3]
      rw [if_pos ok, if_neg nb_10, e3, nb_grd (nb_in hc (by decide)), nb_tn (a := c) (by omega), nb_let, e4, nb_succ, nb_let]
      obtain ⟨b1, b2, b3, b4, b5, b6⟩ := a2
      refine ⟨_, Or.inl ⟨i, Nat.le_refl i, hi, fun j h3 h4 => absurd h4 (by omega), ok, rfl, ⟨b1, b2, by omega, qb_x b4 (fun q k hq => ?_), ?_, nb_upE _ _ _ _⟩, ?_, (fun t => (sg_up σ 0 1 (nb p) (5 + c) t).toBitVec.toNat), fun t ht => ?_⟩, fun q k h3 h4 h5 => ?_⟩
      · show sg_up (sg_up σ2 3 c (nb i)) 0 2 (nb (c + 1)) (1 + q) k = σ2 (1 + q) k
        rw [nb_up, if_neg (by omega), nb_up, if_neg (by omega)]
      · rw [nb_up, if_neg (by omega), nb_up, if_neg (by omega)]
        exact b5
      · rw [nb_up, if_neg (by omega), nb_upE]
      · rw [nb_up, if_neg (by omega), nb_up, if_neg (by omega)]
        exact a4 t ht
      · rw [nb_up, if_neg (by omega), nb_up, if_neg h4]
        exact hF q k (by omega) h5
    · have okf : (pt_o f n (pt_f i) p).1 = false := by
        cases hb : (pt_o f n (pt_f i) p).1 with
        | false => rfl
        | true => exact absurd hb ok
      have e5 : σ2 0 1 = nb (pt_o f n (pt_f i) p).2 := a2.2.2.2.2.1
      have b1 := a2.1
      have b2 := a2.2.1
      have eg : (if nb (pt_g f n p i) < nb (pt_o f n (pt_f i) p).2 then nb (pt_o f n (pt_f i) p).2 else nb (pt_g f n p i)) = nb (pt_g f n p (i + 1)) := by
        rw [pt_g]
        by_cases z : pt_g f n p i < (pt_o f n (pt_f i) p).2
        · rw [if_pos z, if_pos (nb_lt_t z (by omega))]
        · rw [if_neg z, if_neg (nb_lt_f (by omega) (by omega))]
      have hg2 : pt_g f n p (i + 1) ≤ n := by
        rw [pt_g]
        split <;> omega
      rw [if_neg ok, if_pos rfl]
      unfold f_X5_isCommandTaken_J65
      rw [e5, eg, nb_let, nb_succ]
      obtain ⟨σ3, q1, q2⟩ := ih (i + 1) N σ2 _ (by omega) (by omega) a2 hg2
      refine ⟨σ3, ?_, pt_Gtr (pt_GF hF) q2⟩
      rcases q1 with ⟨k, k1, k2, k3, k4⟩ | ⟨k1, k2⟩
      · refine Or.inl ⟨k, by omega, k2, fun j h3 h4 => ?_, k4⟩
        by_cases e : j = i
        · rw [e]
          exact okf
        · exact k3 j (by omega) h4
      · refine Or.inr ⟨fun j h3 h4 => ?_, k2⟩
        by_cases e : j = i
        · rw [e]
          exact okf
        · exact k1 j (by omega) h4
theorem pt_com {f : Nat → Nat} {n c p : Nat} {σ : sg_S} (hc : c < 12) (h : pt_I σ f n p c) : ∃ σ2, ((∃ k, k < 8 ∧ (pt_o f n (pt_f k) p).1 = true ∧ f_X5_isCommandTaken σ = some (1, σ2) ∧ pt_I σ2 f n (pt_o f n (pt_f k) p).2 (c + 1) ∧ σ2 3 c = nb k ∧ ∃ s, ∀ t, t < 3 → σ2 (5 + c) t = nb (pt_v f n (pt_f k) p 0 s t)) ∨ ((∀ j, j < 8 → (pt_o f n (pt_f j) p).1 = false) ∧ f_X5_isCommandTaken σ = some (0, σ2) ∧ pt_I σ2 f n (pt_g f n p 8) c)) ∧ pt_G c σ σ2 := by
  obtain ⟨σ2, q1, q2⟩ := pt_cl (f := f) (n := n) (p := p) hc h.2.1 8 0 1000 σ p (by decide) (by decide) h h.2.1
  have e : f_X5_isCommandTaken σ = f_X5_isCommandTaken_L12 1000 (nb p) (nb (pt_g f n p 0)) (nb 0) σ := by
    unfold f_X5_isCommandTaken
    rw [h.2.2.2.2.1, nb_let, nb_let]
    rfl
  rw [e]
  refine ⟨σ2, ?_, q2⟩
  rcases q1 with ⟨k, k1, k2, k3, k4⟩ | ⟨k1, k2⟩
  · exact Or.inl ⟨k, k2, k4⟩
  · exact Or.inr ⟨fun j hj => k1 j (Nat.zero_le j) hj, k2⟩
/-! words -/
def pt_w (k : Nat) : List Nat := ([[116, 114, 101, 97, 116, 121, 32], [101, 110, 100, 32], [99, 114, 101, 100, 105, 116, 32], [114, 101, 112, 97, 121, 32], [114, 97, 105, 110, 32], [98, 97, 105, 108, 32], [98, 117, 121, 32], [109, 111, 110, 116, 104]] : List (List Nat)).getD k []
def pt_r (k : Nat) : List Nat := ([[49, 32, 49], [49, 32, 49], [49, 32, 50, 32, 49], [49], [49, 32, 50], [49, 32, 49], [49], []] : List (List Nat)).getD k []
theorem pt_wr : ∀ k, k < 8 → pt_f k = pt_w k ++ pt_r k ∧ 4 ≤ (pt_w k).length ∧ (pt_w k).length ≤ 7 ∧ (∀ c, c ∈ pt_w k → c ≠ 49 ∧ c ≠ 50 ∧ c ≤ 127) ∧ (k < 7 → 1 ≤ (pt_r k).length) ∧ (k = 7 → (pt_w k).length = 5) := by decide +kernel
theorem pt_dif : ∀ k, k < 8 → ∀ j, j < 8 → k ≠ j → ∃ i, i < 7 ∧ i < (pt_w k).length ∧ i < (pt_w j).length ∧ (pt_w k).getD i 0 ≠ (pt_w j).getD i 0 := by decide +kernel
def pt_m (f : Nat → Nat) (n : Nat) : List Nat → Nat → Nat
  | [], _ => 0
  | c :: r, p => if pt_h f n p = c then pt_m f n r (p + 1) + 1 else 0
theorem pt_mle (f : Nat → Nat) (n : Nat) : ∀ (L : List Nat) (p : Nat), pt_m f n L p ≤ L.length := by
  intro L
  induction L with
  | nil =>
    intro p
    exact Nat.le_refl 0
  | cons c r ih =>
    intro p
    show (if pt_h f n p = c then pt_m f n r (p + 1) + 1 else 0) ≤ r.length + 1
    have := ih (p + 1)
    split <;> omega
theorem pt_mst (f : Nat → Nat) (n : Nat) : ∀ (L : List Nat) (p i : Nat), i + 1 ≤ pt_m f n L p ↔ i ≤ pt_m f n L p ∧ i < L.length ∧ L.getD i 0 = pt_h f n (p + i) := by
  intro L
  induction L with
  | nil =>
    intro p i
    constructor
    · intro h
      exact absurd h (by show ¬ i + 1 ≤ 0; omega)
    · intro h
      exact absurd h.2.1 (by show ¬ i < 0; omega)
  | cons c r ih =>
    intro p i
    have e : pt_m f n (c :: r) p = if pt_h f n p = c then pt_m f n r (p + 1) + 1 else 0 := rfl
    by_cases z : pt_h f n p = c
    · rw [e, if_pos z]
      cases i with
      | zero =>
        constructor
        · intro _
          exact ⟨by omega, by show 0 < r.length + 1; omega, z.symm⟩
        · intro _
          omega
      | succ i =>
        have q := ih (p + 1) i
        rw [(by omega : p + 1 + i = p + (i + 1))] at q
        constructor
        · intro h
          obtain ⟨a, b, d⟩ := q.mp (by omega)
          exact ⟨by omega, by show i + 1 < r.length + 1; omega, d⟩
        · intro h
          obtain ⟨a, b, d⟩ := h
          have b' : i + 1 < r.length + 1 := b
          have := q.mpr ⟨by omega, by omega, d⟩
          omega
    · rw [e, if_neg z]
      constructor
      · intro h
        omega
      · intro h
        obtain ⟨a, b, d⟩ := h
        have hi : i = 0 := by omega
        subst hi
        exact absurd d.symm z
theorem pt_mall {f : Nat → Nat} {n : Nat} {L : List Nat} {p i : Nat} (h : i < pt_m f n L p) : L.getD i 0 = pt_h f n (p + i) := ((pt_mst f n L p i).mp h).2.2
theorem pt_mpos {f : Nat → Nat} {n : Nat} : ∀ (L : List Nat) (p : Nat), (∀ c, c ∈ L → c ≤ 127) → p ≤ n → p + pt_m f n L p ≤ n := by
  intro L
  induction L with
  | nil =>
    intro p _ hp
    exact hp
  | cons c r ih =>
    intro p hL hp
    show p + (if pt_h f n p = c then pt_m f n r (p + 1) + 1 else 0) ≤ n
    by_cases z : pt_h f n p = c
    · rw [if_pos z]
      have hp2 : p < n := by
        by_cases hp2 : p < n
        · exact hp2
        · have q1 : pt_h f n p = 999 := if_neg hp2
          have q2 := hL c (by simp)
          omega
      have := ih (p + 1) (fun x hx => hL x (by simp [hx])) hp2
      omega
    · rw [if_neg z]
      omega
theorem pt_oa {f : Nat → Nat} {n : Nat} {R : List Nat} : ∀ (W : List Nat) (p : Nat), (∀ c, c ∈ W → c ≠ 49 ∧ c ≠ 50) → pt_o f n (W ++ R) p = if pt_m f n W p = W.length then pt_o f n R (p + W.length) else (false, p + pt_m f n W p) := by
  intro W
  induction W with
  | nil =>
    intro p _
    rfl
  | cons c r ih =>
    intro p hW
    obtain ⟨h1, h2⟩ := hW c (by simp)
    have e : pt_m f n (c :: r) p = if pt_h f n p = c then pt_m f n r (p + 1) + 1 else 0 := rfl
    have e2 : (c :: r).length = r.length + 1 := rfl
    show pt_o f n (c :: (r ++ R)) p = _
    rw [pt_o, if_neg (by omega), e, e2]
    by_cases z : pt_h f n p = c
    · rw [if_pos z, if_pos z, ih (p + 1) (fun x hx => hW x (by simp [hx]))]
      by_cases y : pt_m f n r (p + 1) = r.length
      · rw [if_pos y, if_pos (by omega), (by omega : p + 1 + r.length = p + (r.length + 1))]
      · rw [if_neg y, if_neg (by omega), (by omega : p + 1 + pt_m f n r (p + 1) = p + (pt_m f n r (p + 1) + 1))]
    · rw [if_neg z, if_neg z, if_neg (by omega), Nat.add_zero]
theorem pt_va {f : Nat → Nat} {n j : Nat} {s : Nat → Nat} {R : List Nat} : ∀ (W : List Nat) (p : Nat), (∀ c, c ∈ W → c ≠ 49 ∧ c ≠ 50) → pt_m f n W p = W.length → pt_v f n (W ++ R) p j s = pt_v f n R (p + W.length) j s := by
  intro W
  induction W with
  | nil =>
    intro p _ _
    rfl
  | cons c r ih =>
    intro p hW hm
    obtain ⟨h1, h2⟩ := hW c (by simp)
    have e : pt_m f n (c :: r) p = if pt_h f n p = c then pt_m f n r (p + 1) + 1 else 0 := rfl
    have e2 : (c :: r).length = r.length + 1 := rfl
    rw [e, e2] at hm
    by_cases z : pt_h f n p = c
    · rw [if_pos z] at hm
      show pt_v f n (c :: (r ++ R)) p j s = _
      rw [pt_v, if_neg (by omega), if_pos z, ih (p + 1) (fun x hx => hW x (by simp [hx])) (by omega), e2, (by omega : p + 1 + r.length = p + (r.length + 1))]
    · rw [if_neg z] at hm
      omega
theorem pt_oge {f : Nat → Nat} {n : Nat} : ∀ (L : List Nat) (p : Nat), p ≤ (pt_o f n L p).2 ∧ ((pt_o f n L p).1 = true → p + L.length ≤ (pt_o f n L p).2) := by
  intro L
  induction L with
  | nil =>
    intro p
    exact ⟨Nat.le_refl p, fun _ => Nat.le_refl p⟩
  | cons c r ih =>
    intro p
    have e2 : (c :: r).length = r.length + 1 := rfl
    rw [pt_o, e2]
    by_cases z : c = 49 ∨ c = 50
    · rw [if_pos z]
      by_cases y : (pt_d f n (c - 48) p 0).2 = 0
      · rw [if_pos y]
        exact ⟨Nat.le_refl p, fun h => by cases h⟩
      · rw [if_neg y]
        obtain ⟨a, b⟩ := ih (p + (pt_d f n (c - 48) p 0).2)
        exact ⟨by omega, fun h => by have := b h; omega⟩
    · rw [if_neg z]
      by_cases y : pt_h f n p = c
      · rw [if_pos y]
        obtain ⟨a, b⟩ := ih (p + 1)
        exact ⟨by omega, fun h => by have := b h; omega⟩
      · rw [if_neg y]
        exact ⟨Nat.le_refl p, fun h => by cases h⟩
/-- at most one word is there -/
theorem pt_uni {f : Nat → Nat} {n p k j : Nat} (hk : k < 8) (hj : j < 8) (hkj : k ≠ j) (h : pt_m f n (pt_w k) p = (pt_w k).length) : pt_m f n (pt_w j) p < (pt_w k).length ∧ pt_m f n (pt_w j) p < (pt_w j).length := by
  obtain ⟨i, i7, i1, i2, i3⟩ := pt_dif k hk j hj hkj
  have a : (pt_w k).getD i 0 = pt_h f n (p + i) := pt_mall (by omega)
  have b : ¬ i < pt_m f n (pt_w j) p := fun c => i3 (by rw [a, pt_mall c])
  exact ⟨by omega, by omega⟩
theorem pt_o1 {f : Nat → Nat} {n p k : Nat} (hk : k < 8) (h : pt_m f n (pt_w k) p = (pt_w k).length) : pt_o f n (pt_f k) p = pt_o f n (pt_r k) (p + (pt_w k).length) := by
  obtain ⟨a, b, c, d, e⟩ := pt_wr k hk
  rw [a, pt_oa _ _ (fun x hx => ⟨(d x hx).1, (d x hx).2.1⟩), if_pos h]
theorem pt_o0 {f : Nat → Nat} {n p k : Nat} (hk : k < 8) (h : pt_m f n (pt_w k) p ≠ (pt_w k).length) : pt_o f n (pt_f k) p = (false, p + pt_m f n (pt_w k) p) := by
  obtain ⟨a, b, c, d, e⟩ := pt_wr k hk
  rw [a, pt_oa _ _ (fun x hx => ⟨(d x hx).1, (d x hx).2.1⟩), if_neg h]
theorem pt_gmax {f : Nat → Nat} {n p : Nat} : ∀ i, p ≤ pt_g f n p i ∧ (∀ k, k < i → (pt_o f n (pt_f k) p).2 ≤ pt_g f n p i) ∧ (pt_g f n p i = p ∨ ∃ k, k < i ∧ pt_g f n p i = (pt_o f n (pt_f k) p).2) := by
  intro i
  induction i with
  | zero => exact ⟨Nat.le_refl p, fun k hk => absurd hk (Nat.not_lt_zero k), Or.inl rfl⟩
  | succ i ih =>
    obtain ⟨a, b, c⟩ := ih
    rw [pt_g]
    by_cases z : pt_g f n p i < (pt_o f n (pt_f i) p).2
    · rw [if_pos z]
      refine ⟨by omega, fun k hk => ?_, Or.inr ⟨i, by omega, rfl⟩⟩
      by_cases e : k = i
      · rw [e]
        exact Nat.le_refl _
      · have := b k (by omega)
        omega
    · rw [if_neg z]
      refine ⟨a, fun k hk => ?_, ?_⟩
      · by_cases e : k = i
        · rw [e]
          omega
        · exact b k (by omega)
      · rcases c with c | ⟨k, k1, k2⟩
        · exact Or.inl c
        · exact Or.inr ⟨k, by omega, k2⟩
