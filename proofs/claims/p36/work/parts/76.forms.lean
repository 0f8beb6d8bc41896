/-! THE INPUT READ: forms, as numbers; the class's way -/
def pt_h (f : Nat → Nat) (n p : Nat) : Nat := if p < n then f p else 999
def pt_d (f : Nat → Nat) (n : Nat) : Nat → Nat → Nat → Nat × Nat
  | 0, _, v => (v, 0)
  | m + 1, p, v => if 48 ≤ pt_h f n p ∧ pt_h f n p ≤ 57 then ((pt_d f n m (p + 1) (10 * v + pt_h f n p - 48)).1, (pt_d f n m (p + 1) (10 * v + pt_h f n p - 48)).2 + 1) else (v, 0)
def pt_o (f : Nat → Nat) (n : Nat) : List Nat → Nat → Bool × Nat
  | [], p => (true, p)
  | c :: r, p => if c = 49 ∨ c = 50 then (if (pt_d f n (c - 48) p 0).2 = 0 then (false, p) else pt_o f n r (p + (pt_d f n (c - 48) p 0).2)) else if pt_h f n p = c then pt_o f n r (p + 1) else (false, p)
def pt_v (f : Nat → Nat) (n : Nat) : List Nat → Nat → Nat → (Nat → Nat) → Nat → Nat
  | [], _, _, s => s
  | c :: r, p, j, s => if c = 49 ∨ c = 50 then (if (pt_d f n (c - 48) p 0).2 = 0 then gw_u s j (pt_d f n (c - 48) p 0).1 else pt_v f n r (p + (pt_d f n (c - 48) p 0).2) (j + 1) (gw_u s j (pt_d f n (c - 48) p 0).1)) else if pt_h f n p = c then pt_v f n r (p + 1) j s else s
def pt_c : List Nat → Nat
  | [] => 0
  | c :: r => pt_c r + (if c = 49 ∨ c = 50 then 1 else 0)
def pt_f (k : Nat) : List Nat := ([[116, 114, 101, 97, 116, 121, 32, 49, 32, 49], [101, 110, 100, 32, 49, 32, 49], [99, 114, 101, 100, 105, 116, 32, 49, 32, 50, 32, 49], [114, 101, 112, 97, 121, 32, 49], [114, 97, 105, 110, 32, 49, 32, 50], [98, 97, 105, 108, 32, 49, 32, 49], [98, 117, 121, 32, 49], [109, 111, 110, 116, 104]] : List (List Nat)).getD k []
theorem pt_fb : ∀ k, k < 8 → f_J0_length_8abf5 k = some (nb (pt_f k).length) ∧ (pt_f k).length ≤ 12 ∧ pt_c (pt_f k) ≤ 3 ∧ ∀ i, i < (pt_f k).length → f_J0_charAt_5068e k (nb i) = some (nb ((pt_f k).getD i 0)) ∧ (pt_f k).getD i 0 ≤ 127 := by decide +kernel
def pt_I (σ : sg_S) (f : Nat → Nat) (n p c : Nat) : Prop := n ≤ 60 ∧ p ≤ n ∧ c ≤ 12 ∧ qb_I (sg_e1 1 σ) n f ∧ σ 0 1 = nb p ∧ σ 0 2 = nb c
/-- what stays while a form is tried for the command c -/
def pt_F (c : Nat) (σ σ2 : sg_S) : Prop := ∀ q k, ¬ (q = 0 ∧ k = 1) → q ≠ 5 + c → σ2 q k = σ q k
theorem pt_Frf (c : Nat) (σ : sg_S) : pt_F c σ σ := fun _ _ _ _ => rfl
theorem pt_Ftr {c : Nat} {a b d : sg_S} (h : pt_F c a b) (h2 : pt_F c b d) : pt_F c a d := fun q k h3 h4 => (h2 q k h3 h4).trans (h q k h3 h4)
theorem pt_Ix {σ σ2 : sg_S} {f : Nat → Nat} {n p p2 c : Nat} (h : pt_I σ f n p c) (hF : pt_F c σ σ2) (h1 : σ2 0 1 = nb p2) (hp : p2 ≤ n) : pt_I σ2 f n p2 c := by
  obtain ⟨a, b, hc, d, e, g⟩ := h
  refine ⟨a, hp, hc, qb_x d (fun q k hq => hF _ _ (by omega) (by omega)), h1, (hF _ _ (by omega) (by omega)).trans g⟩
theorem pt_hx {σ : sg_S} {f : Nat → Nat} {n p c : Nat} (h : pt_I σ f n p c) (hp : p < n) : pt_h f n p = f p ∧ f_J4_charAt_5068e (nb p) (sg_e1 1 σ) = some (nb (f p)) ∧ f p ≤ 127 := by
  obtain ⟨a, b, hc, d, e, g⟩ := h
  refine ⟨if_pos hp, qb_at d hp, ?_⟩
  obtain ⟨r, _, _, _, hf⟩ := d
  exact (hf p hp).1
theorem pt_up {σ : sg_S} {c : Nat} (v : Int32) : pt_F c σ (sg_up σ 0 1 v) := fun q k h1 _ => by rw [nb_up, if_neg h1]
theorem pt_sign {σ : sg_S} {f : Nat → Nat} {n p c x : Nat} (h : pt_I σ f n p c) (hx : x ≤ 127) : f_X5_isSignTaken (nb x) σ = if pt_h f n p = x then some (1, sg_up σ 0 1 (nb (p + 1))) else some (0, σ) := by
  have h0 := h
  obtain ⟨a, b, hc, d, e, g⟩ := h
  unfold f_X5_isSignTaken
  rw [qb_len d, nb_bnd, e]
  by_cases hp : p < n
  · obtain ⟨q1, q2, q3⟩ := pt_hx h0 hp
    rw [if_pos (nb_lt_t hp (by omega)), q2, nb_bnd, q1, nb_succ]
    by_cases c1 : f p = x
    · rw [if_pos (by rw [c1]), if_pos c1, nb_let]
    · rw [if_neg (nb_ne c1 (by omega) (by omega)), if_neg c1]
  · have q1 : pt_h f n p = 999 := if_neg hp
    rw [if_neg (nb_lt_f (by omega) (by omega)), q1, if_neg (by omega)]
theorem pt_dig {σ : sg_S} {f : Nat → Nat} {n p c : Nat} (h : pt_I σ f n p c) : f_X5_isDigitNext σ = some (if 48 ≤ pt_h f n p ∧ pt_h f n p ≤ 57 then 1 else 0) := by
  have h0 := h
  obtain ⟨a, b, hc, d, e, g⟩ := h
  unfold f_X5_isDigitNext
  rw [qb_len d, nb_bnd, e]
  by_cases hp : p < n
  · obtain ⟨q1, q2, q3⟩ := pt_hx h0 hp
    rw [if_pos (nb_lt_t hp (by omega)), q2, nb_bnd, q1, nb_bnd]
    by_cases c1 : 48 ≤ f p
    · rw [if_pos (show (48 : Int32) ≤ nb (f p) from nb_le_t (a := 48) c1 (by omega))]
      by_cases c2 : f p ≤ 57
      · rw [if_pos (show nb (f p) ≤ (57 : Int32) from nb_le_t (b := 57) c2 (by decide)), if_pos ⟨c1, c2⟩]
      · rw [if_neg (show ¬ nb (f p) ≤ (57 : Int32) from nb_le_f (b := 57) (by omega) (by omega)), if_neg (fun q => c2 q.2)]
    · rw [if_neg (show ¬ (48 : Int32) ≤ nb (f p) from nb_le_f (a := 48) (by omega) (by decide)), if_neg (fun q => c1 q.1)]
  · have q1 : pt_h f n p = 999 := if_neg hp
    rw [if_neg (nb_lt_f (by omega) (by omega)), q1, if_neg (by omega)]
/-- the end of a number: it is kept -/
theorem pt_n54 {σ : sg_S} {f : Nat → Nat} {n p c j v d : Nat} {x : Int32} (h : pt_I σ f n p c) (hc : c < 12) (hj : j < 3) (hd : d < 1000) : ∃ σ2, f_X5_isNumberTaken_J54 x (nb j) (nb v) (nb d) σ = some (if d = 0 then 0 else 1, σ2) ∧ pt_I σ2 f n p c ∧ pt_F c σ σ2 ∧ σ2 (5 + c) j = nb v ∧ ∀ k, k ≠ j → σ2 (5 + c) k = σ (5 + c) k := by
  have h0 := h
  obtain ⟨a, b, hc2, d2, e, g⟩ := h
  have ff : pt_F c σ (sg_up σ (5 + 1 * c) j (nb v)) := fun q k h1 h2 => by rw [nb_up, if_neg (by omega)]
  refine ⟨sg_up σ (5 + 1 * c) j (nb v), ?_, pt_Ix h0 ff (by rw [nb_up, if_neg (by omega)]; exact e) b, ff, by rw [nb_up, if_pos ⟨by omega, rfl⟩], fun k hk => by rw [nb_up, if_neg (by omega)]⟩
  unfold f_X5_isNumberTaken_J54
  rw [g, if_pos (show nb c < (12 : Int32) from nb_lt_t (b := 12) hc (by decide)), if_pos (show nb j < (3 : Int32) from nb_lt_t (b := 3) hj (by decide)), nb_grd (nb_in (by omega) (by decide)), nb_tn (a := c) (by omega), nb_let, nb_grd (nb_in (by omega) (by decide)), nb_tn (a := j) (by omega), nb_let]
  unfold f_X5_isNumberTaken_J80
  by_cases z : d = 0
  · rw [z, if_neg nb_npos, if_pos rfl]
  · rw [if_pos (nb_pos (by omega) (by omega)), if_neg z]
theorem pt_num5 {f : Nat → Nat} {n c j M : Nat} (hM : M ≤ 2) (hc : c < 12) (hj : j < 3) : ∀ (m d p v N : Nat) (σ : sg_S), d + m = M → m < N → pt_I σ f n p c → ∃ σ2, f_X5_isNumberTaken_L5 (nb M) (nb j) N (nb v) (nb d) σ = some (if d + (pt_d f n m p v).2 = 0 then 0 else 1, σ2) ∧ pt_I σ2 f n (p + (pt_d f n m p v).2) c ∧ pt_F c σ σ2 ∧ σ2 (5 + c) j = nb (pt_d f n m p v).1 ∧ ∀ k, k ≠ j → σ2 (5 + c) k = σ (5 + c) k := by
  intro m
  induction m with
  | zero =>
    intro d p v N σ h1 h2 h
    obtain ⟨N, rfl⟩ : ∃ k, N = k + 1 := ⟨N - 1, by omega⟩
    have e : d = M := by omega
    obtain ⟨σ2, a1, a2, a3, a4, a5⟩ := pt_n54 (x := nb M) (v := v) (d := d) h hc hj (by omega)
    refine ⟨σ2, ?_, a2, a3, a4, a5⟩
    rw [f_X5_isNumberTaken_L5, if_neg (nb_lt_f (by omega) (by omega)), a1]
    rfl
  | succ m ih =>
    intro d p v N σ h1 h2 h
    obtain ⟨N, rfl⟩ : ∃ k, N = k + 1 := ⟨N - 1, by omega⟩
    rw [f_X5_isNumberTaken_L5, if_pos (nb_lt_t (by omega) (by omega)), pt_dig h, nb_bnd]
    by_cases c1 : 48 ≤ pt_h f n p ∧ pt_h f n p ≤ 57
    · have hp : p < n := by
        by_cases hp : p < n
        · exact hp
        · have q1 : pt_h f n p = 999 := if_neg hp
          omega
      obtain ⟨q1, q2, q3⟩ := pt_hx h hp
      have h0 := h
      obtain ⟨a, b, hc2, d2, e, g⟩ := h
      have ev : (10 : Int32) * nb v + nb (f p) - 48 = nb (10 * v + pt_h f n p - 48) := by
        rw [show (10 : Int32) * nb v = nb (10 * v) from nb_mul 10 v, nb_add, q1]
        exact nb_sub (b := 48) (by omega)
      rw [if_pos c1, if_neg nb_10, e, q2, nb_bnd, ev, nb_let, nb_succ, nb_let, nb_succ]
      have hN : pt_I (sg_up σ 0 1 (nb (p + 1))) f n (p + 1) c := pt_Ix h0 (pt_up _) (nb_upE _ _ _ _) (by omega)
      obtain ⟨σ2, a1, a2, a3, a4, a5⟩ := ih (d + 1) (p + 1) (10 * v + pt_h f n p - 48) N _ (by omega) (by omega) hN
      have ed : pt_d f n (m + 1) p v = ((pt_d f n m (p + 1) (10 * v + pt_h f n p - 48)).1, (pt_d f n m (p + 1) (10 * v + pt_h f n p - 48)).2 + 1) := by rw [pt_d, if_pos c1]
      rw [ed]
      refine ⟨σ2, ?_, ?_, pt_Ftr (pt_up _) a3, a4, fun k hk => ?_⟩
      · rw [a1]
        show some (if d + 1 + (pt_d f n m (p + 1) (10 * v + pt_h f n p - 48)).2 = 0 then (0 : Int32) else 1, σ2) = some (if d + ((pt_d f n m (p + 1) (10 * v + pt_h f n p - 48)).2 + 1) = 0 then (0 : Int32) else 1, σ2)
        rw [if_neg (by omega), if_neg (by omega)]
      · show pt_I σ2 f n (p + ((pt_d f n m (p + 1) (10 * v + pt_h f n p - 48)).2 + 1)) c
        rw [(by omega : p + ((pt_d f n m (p + 1) (10 * v + pt_h f n p - 48)).2 + 1) = p + 1 + (pt_d f n m (p + 1) (10 * v + pt_h f n p - 48)).2)]
        exact a2
      · rw [a5 k hk, nb_up, if_neg (by omega)]
    · obtain ⟨σ2, a1, a2, a3, a4, a5⟩ := pt_n54 (x := nb M) (v := v) (d := d) h hc hj (by omega)
      have ed : pt_d f n (m + 1) p v = (v, 0) := by rw [pt_d, if_neg c1]
      rw [if_neg c1, if_pos rfl, ed]
      exact ⟨σ2, a1, a2, a3, a4, a5⟩
theorem pt_num {f : Nat → Nat} {n c j p M : Nat} {σ : sg_S} (hM : M ≤ 2) (hc : c < 12) (hj : j < 3) (h : pt_I σ f n p c) : ∃ σ2, f_X5_isNumberTaken (nb M) (nb j) σ = some (if (pt_d f n M p 0).2 = 0 then 0 else 1, σ2) ∧ pt_I σ2 f n (p + (pt_d f n M p 0).2) c ∧ pt_F c σ σ2 ∧ σ2 (5 + c) j = nb (pt_d f n M p 0).1 ∧ ∀ k, k ≠ j → σ2 (5 + c) k = σ (5 + c) k := by
  obtain ⟨σ2, a1, a2⟩ := pt_num5 hM hc hj M 0 p 0 1000 σ (by omega) (by omega) h
  rw [Nat.zero_add] at a1
  exact ⟨σ2, a1, a2⟩
/-- a form, from its i-th sign on -/
theorem pt_form4 {f : Nat → Nat} {n c k : Nat} (hk : k < 8) (hc : c < 12) : ∀ (L : List Nat) (i j p N : Nat) (s : Nat → Nat) (σ : sg_S), i + L.length = (pt_f k).length → (∀ t, t < L.length → (pt_f k).getD (i + t) 0 = L.getD t 0) → L.length < N → j + pt_c L ≤ 3 → pt_I σ f n p c → (∀ t, t < 3 → σ (5 + c) t = nb (s t)) → ∃ σ2, f_X5_isFormTaken_L4 k N (nb j) (nb i) σ = some (if (pt_o f n L p).1 = true then 1 else 0, σ2) ∧ pt_I σ2 f n (pt_o f n L p).2 c ∧ pt_F c σ σ2 ∧ ∀ t, t < 3 → σ2 (5 + c) t = nb (pt_v f n L p j s t) := by
  obtain ⟨l1, l2, l3, l4⟩ := pt_fb k hk
  intro L
  induction L with
  | nil =>
    intro i j p N s σ h1 h2 h3 h4 h hs
    obtain ⟨N, rfl⟩ : ∃ k, N = k + 1 := ⟨N - 1, by omega⟩
    have e : i = (pt_f k).length := h1
    rw [f_X5_isFormTaken_L4, l1, nb_bnd, if_neg (nb_lt_f (by omega) (by omega))]
    exact ⟨σ, rfl, h, pt_Frf c σ, hs⟩
  | cons x r ih =>
    intro i j p N s σ h1 h2 h3 h4 h hs
    obtain ⟨N, rfl⟩ : ∃ k, N = k + 1 := ⟨N - 1, by omega⟩
    have h1' : i + (r.length + 1) = (pt_f k).length := h1
    have h3' : r.length + 1 < N + 1 := h3
    have ex : (pt_f k).getD i 0 = x := h2 0 (by simp)
    obtain ⟨m1, m2⟩ := l4 i (by omega)
    rw [ex] at m1 m2
    have h2r : ∀ t, t < r.length → (pt_f k).getD (i + 1 + t) 0 = r.getD t 0 := fun t ht => by
      have := h2 (t + 1) (by simp; omega)
      rw [(by omega : i + (t + 1) = i + 1 + t)] at this
      exact this
    rw [f_X5_isFormTaken_L4, l1, nb_bnd, if_pos (nb_lt_t (by omega) (by omega)), m1, nb_bnd]
    have ec : pt_c (x :: r) = pt_c r + (if x = 49 ∨ x = 50 then 1 else 0) := rfl
    by_cases c1 : x = 49 ∨ x = 50
    · rw [if_pos c1] at ec
      have e1 : nb x - 48 = nb (x - 48) := nb_sub (b := 48) (by omega)
      obtain ⟨σ2, a1, a2, a3, a4, a5⟩ := pt_num (M := x - 48) (j := j) (by omega) hc (by omega) h
      have J : f_X5_isFormTaken_J33 k (fun z2' z3' σz' => f_X5_isFormTaken_L4 k N z2' z3' σz') (nb j) (nb i) (nb x) σ = if (pt_d f n (x - 48) p 0).2 = 0 then some (0, σ2) else f_X5_isFormTaken_L4 k N (nb (j + 1)) (nb (i + 1)) σ2 := by
        unfold f_X5_isFormTaken_J33
        rw [e1, a1, nb_bnd2, nb_succ, nb_succ]
        by_cases z : (pt_d f n (x - 48) p 0).2 = 0
        · rw [if_pos z, if_pos rfl, if_pos z]
        · rw [if_neg z, if_neg nb_10, if_neg z]
      have J2 : (if nb x = 49 then f_X5_isFormTaken_J33 k (fun z2' z3' σz' => f_X5_isFormTaken_L4 k N z2' z3' σz') (nb j) (nb i) (nb x) σ else (if nb x = 50 then f_X5_isFormTaken_J33 k (fun z2' z3' σz' => f_X5_isFormTaken_L4 k N z2' z3' σz') (nb j) (nb i) (nb x) σ else sg_bnd2 (f_X5_isSignTaken (nb x) σ) (fun r10 τ8 => (if r10 = 0 then some (0, τ8) else f_X5_isFormTaken_L4 k N (nb j) (nb i + 1) τ8)))) = f_X5_isFormTaken_J33 k (fun z2' z3' σz' => f_X5_isFormTaken_L4 k N z2' z3' σz') (nb j) (nb i) (nb x) σ := by
        rcases c1 with e | e
        · rw [if_pos (by rw [e]; rfl)]
        · rw [if_neg (by rw [e]; decide), if_pos (by rw [e]; rfl)]
      rw [J2, J, pt_o, if_pos c1, pt_v, if_pos c1]
      by_cases z : (pt_d f n (x - 48) p 0).2 = 0
      · rw [if_pos z, if_pos z, if_pos z]
        rw [z] at a2
        refine ⟨σ2, rfl, a2, a3, fun t ht => ?_⟩
        by_cases e : t = j
        · rw [e, gw_at]
          exact a4
        · rw [gw_ne _ _ e, a5 t e]
          exact hs t ht
      · rw [if_neg z, if_neg z, if_neg z]
        obtain ⟨σ3, b1, b2, b3, b4⟩ := ih (i + 1) (j + 1) (p + (pt_d f n (x - 48) p 0).2) N (gw_u s j (pt_d f n (x - 48) p 0).1) σ2 (by omega) h2r (by omega) (by omega) a2 (fun t ht => by
          by_cases e : t = j
          · rw [e, gw_at]
            exact a4
          · rw [gw_ne _ _ e, a5 t e]
            exact hs t ht)
        exact ⟨σ3, b1, b2, pt_Ftr a3 b3, b4⟩
    · rw [if_neg c1] at ec
      have n1 : ¬ nb x = 49 := nb_ne (b := 49) (by omega) (by omega) (by decide)
      have n2 : ¬ nb x = 50 := nb_ne (b := 50) (by omega) (by omega) (by decide)
      rw [if_neg n1, if_neg n2, pt_sign h m2, pt_o, if_neg c1, pt_v, if_neg c1, nb_succ]
      have h0 := h
      obtain ⟨a, b, hc2, d2, e, g⟩ := h
      by_cases z : pt_h f n p = x
      · have hp : p < n := by
          by_cases hp : p < n
          · exact hp
          · have q1 : pt_h f n p = 999 := if_neg hp
            omega
        rw [if_pos z, if_pos z, if_pos z, nb_bnd2, if_neg nb_10]
        obtain ⟨σ3, b1, b2, b3, b4⟩ := ih (i + 1) j (p + 1) N s (sg_up σ 0 1 (nb (p + 1))) (by omega) h2r (by omega) (by omega) (pt_Ix h0 (pt_up _) (nb_upE _ _ _ _) (by omega)) (fun t ht => by
          rw [nb_up, if_neg (by omega)]
          exact hs t ht)
        exact ⟨σ3, b1, b2, pt_Ftr (pt_up _) b3, b4⟩
      · rw [if_neg z, if_neg z, if_neg z, nb_bnd2, if_pos rfl]
        exact ⟨σ, rfl, h0, pt_Frf c σ, hs⟩
theorem pt_form {f : Nat → Nat} {n c k p : Nat} {s : Nat → Nat} {σ : sg_S} (hk : k < 8) (hc : c < 12) (h : pt_I σ f n p c) (hs : ∀ t, t < 3 → σ (5 + c) t = nb (s t)) : ∃ σ2, f_X5_isFormTaken k σ = some (if (pt_o f n (pt_f k) p).1 = true then 1 else 0, σ2) ∧ pt_I σ2 f n (pt_o f n (pt_f k) p).2 c ∧ pt_F c σ σ2 ∧ ∀ t, t < 3 → σ2 (5 + c) t = nb (pt_v f n (pt_f k) p 0 s t) := by
  obtain ⟨l1, l2, l3, l4⟩ := pt_fb k hk
  exact pt_form4 hk hc (pt_f k) 0 0 p 1000 s σ (by omega) (fun t ht => by rw [Nat.zero_add]) (by omega) (by omega) h hs
