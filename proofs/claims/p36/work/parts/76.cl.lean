/-! PURE, THE CLASS ALONE: a state w of the ministry, by the reference's places; changes, undo, save, restore -/
def cl_h (m c s : Nat) (σ : sg_S) : Prop := c ≤ 8 ∧ s < 8 ∧ σ 54 0 = nb c ∧ σ 54 1 = nb s ∧ ∀ i, i < c → ∃ w, nb_R (sg_e1 (56 + 13 * ((s + 7 - i) % 8)) σ) w ∧ gi_I m w
def cl_l (σ : sg_S) : Prop := ∃ n f, n ≤ 88 ∧ qb_I (sg_e1 177 σ) n f
def cl_A (m : Nat) (w : Nat → Nat) (c : Nat) (σ : sg_S) : Prop := nb_R (sg_e1 1 σ) w ∧ gi_I m w ∧ (∃ s, cl_h m c s σ) ∧ cl_l σ ∧ σ 161 3 = 0
/-- the newest of the rows that can be undone -/
def cl_u (w : Nat → Nat) (σ : sg_S) : Prop := ∃ s, s < 8 ∧ σ 54 1 = nb s ∧ nb_R (sg_e1 (56 + 13 * ((s + 7) % 8)) σ) w
/-- the snapshot -/
def cl_S (w : Nat → Nat) (σ : sg_S) : Prop := σ 0 4 = 1 ∧ nb_R (sg_e1 41 σ) w
def cl_F (σ σ2 : sg_S) : Prop := σ2 0 4 = σ 0 4 ∧ ∀ p k, 41 ≤ p → p < 54 → σ2 p k = σ p k
def cl_rel (p : Nat) : Prop := (p < 15 ∧ p ≠ 8) ∨ (41 ≤ p ∧ p < 160) ∨ p = 161 ∨ p = 162 ∨ p = 177 ∨ p = 178
theorem cl_Frf (σ : sg_S) : cl_F σ σ := ⟨rfl, fun _ _ _ _ => rfl⟩
theorem cl_Ftr {a b c : sg_S} (h : cl_F a b) (h2 : cl_F b c) : cl_F a c := ⟨h2.1.trans h.1, fun p k h3 h4 => (h2.2 p k h3 h4).trans (h.2 p k h3 h4)⟩
theorem cl_Sx {w : Nat → Nat} {σ σ2 : sg_S} (h : cl_S w σ) (h8 : w 1 ≤ 8) (hF : cl_F σ σ2) : cl_S w σ2 := ⟨hF.1.trans h.1, nb_Rx h.2 h8 (fun _ _ => rfl) (fun p k hp _ _ => (hF.2 (41 + p) k (by omega) (by omega)).symm)⟩
theorem cl_Frel {σ σ2 : sg_S} (h : ∀ p k, cl_rel p → σ2 p k = σ p k) : cl_F σ σ2 := ⟨h 0 4 (by unfold cl_rel; omega), fun p k h1 h2 => h p k (by unfold cl_rel; omega)⟩
theorem cl_hx {m c s : Nat} {σ σ2 : sg_S} (h : cl_h m c s σ) (hx : ∀ p k, 54 ≤ p → p < 160 → σ2 p k = σ p k) : cl_h m c s σ2 := by
  obtain ⟨a, b, d, e, f⟩ := h
  refine ⟨a, b, (hx 54 0 (by decide) (by decide)).trans d, (hx 54 1 (by decide) (by decide)).trans e, fun i hi => ?_⟩
  obtain ⟨w, g1, g2⟩ := f i hi
  exact ⟨w, nb_Rx g1 g2.2.1 (fun _ _ => rfl) (fun p k hp _ _ => (hx (56 + 13 * ((s + 7 - i) % 8) + p) k (by omega) (by omega)).symm), g2⟩
theorem cl_ext {m c : Nat} {w : Nat → Nat} {σ σ2 : sg_S} (h : cl_A m w c σ) (hx : ∀ p k, cl_rel p → σ2 p k = σ p k) : cl_A m w c σ2 := by
  obtain ⟨a, b, ⟨s, d⟩, ⟨n, f, e1, e2⟩, e⟩ := h
  refine ⟨nb_Rx a b.2.1 (fun _ _ => rfl) (fun p k hp h5 h7 => (hx (1 + p) k (by unfold cl_rel; omega)).symm), b, ⟨s, cl_hx d (fun p k h1 h2 => hx p k (by unfold cl_rel; omega))⟩, ⟨n, f, e1, qb_x e2 (fun p k hp => hx (177 + p) k (by unfold cl_rel; omega))⟩, (hx 161 3 (by unfold cl_rel; omega)).trans e⟩
theorem cl_ux {w : Nat → Nat} {σ σ2 : sg_S} (h : cl_u w σ) (h8 : w 1 ≤ 8) (hx : ∀ p k, 54 ≤ p → p < 160 → σ2 p k = σ p k) : cl_u w σ2 := by
  obtain ⟨s, a, b, d⟩ := h
  exact ⟨s, a, (hx 54 1 (by decide) (by decide)).trans b, nb_Rx d h8 (fun _ _ => rfl) (fun p k hp _ _ => (hx (56 + 13 * ((s + 7) % 8) + p) k (by omega) (by omega)).symm)⟩
theorem cl_mono {m m2 c : Nat} {w : Nat → Nat} {σ : sg_S} (h : cl_A m w c σ) (hm : m ≤ m2) : cl_A m2 w c σ := by
  obtain ⟨a, b, ⟨s, d1, d2, d3, d4, d5⟩, e1, e⟩ := h
  exact ⟨a, gi_mono b hm, ⟨s, d1, d2, d3, d4, fun i hi => by
    obtain ⟨w, g1, g2⟩ := d5 i hi
    exact ⟨w, g1, gi_mono g2 hm⟩⟩, e1, e⟩
/-- a state of the reference that holds the same numbers -/
def cl_t (w : Nat → Nat) (σ : sg_S) : sg_S := fun p k => if p = 0 then (if k = 2 then σ 14 0 else if k = 3 then σ 14 1 else if k = 4 then σ 14 2 else if k = 5 then σ 14 3 else 0) else if p = 1 then nb (w k) else if p = 6 then sg_sun k else 0
theorem cl_tV (w : Nat → Nat) (σ : sg_S) : nb_V (cl_t w σ 1) w := fun _ _ => rfl
theorem cl_t6 (w : Nat → Nat) (σ : sg_S) : ∀ k, k < 12 → cl_t w σ 6 k = sg_sun k := fun _ _ => rfl
theorem cl_tH {m : Nat} {w : Nat → Nat} {σ : sg_S} (hR : nb_R (sg_e1 1 σ) w) (hI : gi_I m w) (hm : m < 9000) : gq_H m w σ (cl_t w σ) :=
  ⟨hR, cl_tV w σ, hI, ⟨rfl, rfl, rfl, fun _ => rfl⟩, rfl, hm, cl_t6 w σ⟩
/-- what one command does -/
def cl_O (m : Nat) (w : Nat → Nat) (σ : sg_S) (G : Nat → (Nat → Nat) → Prop) (B : Int32 → Prop) (r : Int32) (σ2 : sg_S) : Prop := gq_C σ σ2 ∧ ((∃ (n : Nat) (w2 : Nat → Nat), r = nb n ∧ n < 100000 ∧ nb_R (sg_e1 1 σ2) w2 ∧ gi_I (m + 1) w2 ∧ G n w2) ∨ ((r = -1 ∨ r = -2 ∨ r = -5) ∧ nb_R (sg_e1 1 σ2) w ∧ B r))
theorem cl_do {m : Nat} {w : Nat → Nat} {σ : sg_S} (hR : nb_R (sg_e1 1 σ) w) (hI : gi_I m w) (hm : m < 9000) {k : Nat} (hk : k < 8) (x y z : Int32) : ∃ r σ2, f_X7_perform (nb k) x y z σ = some (r, σ2) ∧ cl_O m w σ (fun _ _ => True) (fun _ => True) r σ2 := by
  obtain ⟨r, σ2, τ2, e1, _, _, hC, _, hO⟩ := gq_do (cl_tH hR hI hm) hk x y z
  refine ⟨r, σ2, e1, hC, ?_⟩
  rcases hO with ⟨n, w2, er, hn, _, hR2, _, hI2⟩ | ⟨er, _, _, hR2, _⟩
  · exact Or.inl ⟨n, w2, er, hn, hR2, hI2, trivial⟩
  · exact Or.inr ⟨er, hR2, trivial⟩
/-- a change -/
def cl_C (m : Nat) (w : Nat → Nat) (c : Nat) (σ : sg_S) (G : Nat → (Nat → Nat) → Prop) (B : Int32 → Prop) (r : Int32) (σ2 : sg_S) : Prop := fr_F fs_ch σ σ2 ∧ ((∃ (n : Nat) (w2 : Nat → Nat), r = nb n ∧ n < 100000 ∧ cl_A (m + 1) w2 (hs_c c) σ2 ∧ cl_u w σ2 ∧ G n w2) ∨ ((r = -1 ∨ r = -2 ∨ r = -5) ∧ cl_A m w c σ2 ∧ B r))
theorem cl_nn {r : Int32} (h : r = -1 ∨ r = -2 ∨ r = -5) : ¬ (0 ≤ r) := by
  rcases h with rfl | rfl | rfl <;> decide
theorem cl_ch {m c : Nat} {w : Nat → Nat} {σ : sg_S} (h : cl_A m w c σ) {kd x y z : Int32} {G : Nat → (Nat → Nat) → Prop} {B : Int32 → Prop} (hdo : ∀ σ3 : sg_S, nb_R (sg_e1 1 σ3) w → ∃ r σ4, f_X7_perform kd x y z σ3 = some (r, σ4) ∧ cl_O m w σ3 G B r σ4) : ∃ r σ2, f_X7_change kd x y z σ = some (r, σ2) ∧ cl_C m w c σ G B r σ2 := by
  have h0 := h
  obtain ⟨r1, r3, ⟨s, c8, s8, k0, k1, hrow⟩, ⟨ln, lf, l1, l2⟩, ht⟩ := h
  obtain ⟨τc, ec, ac, bc⟩ := hr_cp (σ := σ) (o := 15) (o2 := 1) (by omega)
  unfold f_X7_change
  rw [ec, nb_bnd, nb_let]
  generalize sg_m2 15 13 1 13 σ τc = σ3 at ac bc
  have hR3 : nb_R (sg_e1 1 σ3) w := nb_Rx r1 r3.2.1 (fun _ _ => rfl) (fun p k hp _ _ => (bc _ _ (by omega)).symm)
  obtain ⟨r, σ4, e1, hC4, hO⟩ := hdo σ3 hR3
  rw [e1, nb_bnd2, nb_let]
  have e4 : sg_m1 0 15 σ3 σ4 = σ4 := by
    funext p k
    rw [nb_m1]
    by_cases c : 0 ≤ p ∧ p < 0 + 15
    · rw [if_pos c, Nat.sub_zero]
    · rw [if_neg c, hC4 p (by omega)]
  rw [e4]
  have c4 : ∀ p k, 28 ≤ p → σ4 p k = σ p k := fun p k hp => by rw [hC4 p (by omega), bc _ _ (by omega)]
  rcases hO with ⟨n, w2, er, hn, hR4, hI4, hG⟩ | ⟨er, hR4, hB⟩
  · subst er
    rw [if_pos (nb_0le (by omega))]
    have q0 : sg_e2 106 54 15 σ4 0 0 = nb c := by
      rw [nb_e2, if_pos (by decide)]
      exact (c4 54 0 (by decide)).trans k0
    have q1 : sg_e2 106 54 15 σ4 0 1 = nb s := by
      rw [nb_e2, if_pos (by decide)]
      exact (c4 54 1 (by decide)).trans k1
    obtain ⟨κ2, a1, a2, a3, a4, a5⟩ := hs_keep c8 s8 q0 q1
    rw [a1, nb_bnd, nb_let]
    have hw : nb_R (sg_e1 106 (sg_e2 106 54 15 σ4)) w := by
      refine nb_Rx (hr_R ac r1 r3.2.1) r3.2.1 (fun _ _ => rfl) (fun p k hp _ _ => ?_)
      show σ3 (15 + p) k = sg_e2 106 54 15 σ4 (106 + p) k
      rw [nb_e2, if_neg (by omega), (by omega : 106 + p - 106 = p), hC4 (15 + p) (by omega)]
    have hnew : nb_R (sg_e1 (2 + 13 * s) κ2) w := hr_R a4 hw r3.2.1
    have o1 : ∀ p k, p < 15 ∨ (28 ≤ p ∧ p < 54) ∨ 160 ≤ p → sg_m2 54 106 15 13 σ4 κ2 p k = σ4 p k := fun p k hp => by rw [nb_m2, if_neg (by omega), if_neg (by omega)]
    have o2 : ∀ p k, p < 106 → sg_m2 54 106 15 13 σ4 κ2 (54 + p) k = κ2 p k := fun p k hp => by rw [nb_m2, if_pos (by omega), (by omega : 54 + p - 54 = p)]
    have hc8 : hs_c c ≤ 8 := by
      unfold hs_c
      split <;> omega
    have hold : ∀ i, i + 1 < hs_c c → i < c := fun i hi => by
      unfold hs_c at hi
      split at hi <;> omega
    have hrow0 : nb_R (sg_e1 (56 + 13 * s) (sg_m2 54 106 15 13 σ4 κ2)) w := nb_Rx hnew r3.2.1 (fun _ _ => rfl) (fun p k hp _ _ => by
      show κ2 (2 + 13 * s + p) k = sg_m2 54 106 15 13 σ4 κ2 (56 + 13 * s + p) k
      rw [(by omega : 56 + 13 * s + p = 54 + (2 + 13 * s + p)), o2 _ _ (by omega)])
    have e7 : ((s + 1) % 8 + 7) % 8 = s := by omega
    refine ⟨nb n, _, rfl, fun p k hp => ?_, Or.inl ⟨n, w2, rfl, hn, ⟨nb_Rx hR4 hI4.2.1 (fun _ _ => rfl) (fun p k hp _ _ => (o1 _ _ (by omega)).symm), hI4, ⟨(s + 1) % 8, hc8, by omega, (o2 0 0 (by decide)).trans a2, (o2 0 1 (by decide)).trans a3, fun i hi => ?_⟩, ⟨ln, lf, l1, qb_x l2 (fun p k hp => ?_)⟩, ?_⟩, ⟨(s + 1) % 8, by omega, (o2 0 1 (by decide)).trans a3, ?_⟩, hG⟩⟩
    · unfold fs_ch at hp
      rw [o1 _ _ (by omega)]
      exact c4 p k (by omega)
    · rcases Nat.eq_zero_or_pos i with rfl | hi0
      · refine ⟨w, ?_, gi_mono r3 (Nat.le_succ m)⟩
        rw [Nat.sub_zero, e7]
        exact hrow0
      · obtain ⟨wi, g1, g2⟩ := hrow (i - 1) (hold (i - 1) (by omega))
        refine ⟨wi, nb_Rx g1 g2.2.1 (fun _ _ => rfl) (fun p k hp _ _ => ?_), gi_mono g2 (Nat.le_succ m)⟩
        have ei : ((s + 1) % 8 + 7 - i) % 8 = (s + 7 - (i - 1)) % 8 := by omega
        show σ (56 + 13 * ((s + 7 - (i - 1)) % 8) + p) k = sg_m2 54 106 15 13 σ4 κ2 (56 + 13 * (((s + 1) % 8 + 7 - i) % 8) + p) k
        have l8 : (s + 7 - (i - 1)) % 8 < 8 := by omega
        have ne : (s + 7 - (i - 1)) % 8 ≠ s := by omega
        rw [ei]
        generalize (s + 7 - (i - 1)) % 8 = q at l8 ne
        have e2 := o2 (2 + 13 * q + p) k (by omega)
        rw [(by omega : 54 + (2 + 13 * q + p) = 56 + 13 * q + p)] at e2
        rw [e2, a5 _ _ (by omega) (by omega), nb_e2, if_pos (by omega), (by omega : 54 + (2 + 13 * q + p) = 56 + 13 * q + p), c4 _ _ (by omega)]
    · show sg_m2 54 106 15 13 σ4 κ2 (177 + p) k = σ (177 + p) k
      rw [o1 _ _ (by omega), c4 _ _ (by omega)]
    · rw [o1 _ _ (by omega), c4 _ _ (by omega)]
      exact ht
    · rw [e7]
      exact hrow0
  · rw [if_neg (cl_nn er)]
    refine ⟨r, σ4, rfl, fun p k hp => ?_, Or.inr ⟨er, ⟨hR4, r3, ⟨s, cl_hx ⟨c8, s8, k0, k1, hrow⟩ (fun p k h1 h2 => c4 p k (by omega))⟩, ⟨ln, lf, l1, qb_x l2 (fun p k hp => c4 (177 + p) k (by omega))⟩, (c4 161 3 (by decide)).trans ht⟩, hB⟩⟩
    unfold fs_ch at hp
    exact c4 p k (by omega)
theorem cl_Cany {m c : Nat} {w : Nat → Nat} {σ : sg_S} (h : cl_A m w c σ) (hm : m < 9000) {k : Nat} (hk : k < 8) (x y z : Int32) : ∃ r σ2, f_X7_change (nb k) x y z σ = some (r, σ2) ∧ cl_C m w c σ (fun _ _ => True) (fun _ => True) r σ2 :=
  cl_ch h (fun _ hR => cl_do hR h.2.1 hm hk x y z)
theorem cl_CF {m c : Nat} {w : Nat → Nat} {σ σ2 : sg_S} {G : Nat → (Nat → Nat) → Prop} {B : Int32 → Prop} {r : Int32} (h : cl_C m w c σ G B r σ2) : cl_F σ σ2 → cl_F σ σ2 := id
/-- undo -/
theorem cl_undo {m c : Nat} {w w0 : Nat → Nat} {σ : sg_S} (h : cl_A m w c σ) (hc1 : 1 ≤ c) (hu : cl_u w0 σ) (h0 : gi_I m w0) : ∃ σ2, f_X7_undo σ = some (nb (c - 1), σ2) ∧ fr_F fs_un σ σ2 ∧ cl_A m w0 (c - 1) σ2 := by
  obtain ⟨r1, r3, ⟨s, c8, s8, k0, k1, hrow⟩, ⟨ln, lf, l1, l2⟩, ht⟩ := h
  obtain ⟨s', s8', k1', hr⟩ := hu
  have es : s' = s := (nb_eq (by omega) (by omega)).mp (k1'.symm.trans k1)
  subst es
  have q0 : sg_e2 106 54 1 σ 0 0 = nb c := by
    rw [nb_e2, if_pos (by decide)]
    exact k0
  have q1 : sg_e2 106 54 1 σ 0 1 = nb s' := by
    rw [nb_e2, if_pos (by decide)]
    exact k1
  obtain ⟨κ2, a1, a2, a3, a4, a5⟩ := hs_back c8 hc1 s8 q0 q1
  have ne : ¬ nb c = 0 := nb_ne (b := 0) (by omega) (by omega) (by decide)
  unfold f_X7_undo
  rw [k0, if_neg ne, a1, nb_bnd, nb_let]
  have o1 : ∀ p k, p = 0 ∨ (14 ≤ p ∧ p < 54) ∨ 160 ≤ p → sg_m2 54 106 1 13 σ κ2 p k = σ p k := fun p k hp => by rw [nb_m2, if_neg (by omega), if_neg (by omega)]
  have o2 : ∀ p k, p < 106 → sg_m2 54 106 1 13 σ κ2 (54 + p) k = κ2 p k := fun p k hp => by rw [nb_m2, if_pos (by omega), (by omega : 54 + p - 54 = p)]
  have o3 : ∀ p k, p < 13 → sg_m2 54 106 1 13 σ κ2 (1 + p) k = κ2 (106 + p) k := fun p k hp => by rw [nb_m2, if_neg (by omega), if_pos (by omega), (by omega : 106 + (1 + p - 1) = 106 + p)]
  have e54 : sg_m2 54 106 1 13 σ κ2 54 0 = nb (c - 1) := (o2 0 0 (by decide)).trans a2
  rw [e54]
  refine ⟨_, rfl, fun p k hp => ?_, ?_, h0, ⟨(s' + 7) % 8, by omega, by omega, e54, (o2 0 1 (by decide)).trans a3, fun i hi => ?_⟩, ⟨ln, lf, l1, qb_x l2 (fun p k hp => o1 _ _ (by omega))⟩, (o1 161 3 (by omega)).trans ht⟩
  · unfold fs_un at hp
    exact o1 p k (by omega)
  · have hb : nb_R (sg_e1 106 κ2) w0 := hr_R a4 (nb_Rx hr h0.2.1 (fun _ _ => rfl) (fun p k hp _ _ => by
      show σ (56 + 13 * ((s' + 7) % 8) + p) k = sg_e2 106 54 1 σ (2 + 13 * ((s' + 7) % 8) + p) k
      rw [nb_e2, if_pos (by omega), (by omega : 54 + (2 + 13 * ((s' + 7) % 8) + p) = 56 + 13 * ((s' + 7) % 8) + p)])) h0.2.1
    exact nb_Rx hb h0.2.1 (fun _ _ => rfl) (fun p k hp _ _ => (o3 p k hp).symm)
  · obtain ⟨wi, g1, g2⟩ := hrow (i + 1) (by omega)
    refine ⟨wi, nb_Rx g1 g2.2.1 (fun _ _ => rfl) (fun p k hp _ _ => ?_), g2⟩
    have ei : ((s' + 7) % 8 + 7 - i) % 8 = (s' + 7 - (i + 1)) % 8 := by omega
    show σ (56 + 13 * ((s' + 7 - (i + 1)) % 8) + p) k = sg_m2 54 106 1 13 σ κ2 (56 + 13 * (((s' + 7) % 8 + 7 - i) % 8) + p) k
    have l8 : (s' + 7 - (i + 1)) % 8 < 8 := by omega
    rw [ei]
    generalize (s' + 7 - (i + 1)) % 8 = q at l8
    have e2 := o2 (2 + 13 * q + p) k (by omega)
    rw [(by omega : 54 + (2 + 13 * q + p) = 56 + 13 * q + p)] at e2
    rw [e2, a5 _ _ (by omega) (by omega), nb_e2, if_pos (by omega), (by omega : 54 + (2 + 13 * q + p) = 56 + 13 * q + p)]
/-- save -/
theorem cl_save {m c : Nat} {w : Nat → Nat} {σ : sg_S} (h : cl_A m w c σ) : ∃ σ2, f_X7_save σ = some (nb (w 0), σ2) ∧ (∀ p k, ¬ (41 ≤ p ∧ p < 54) → ¬ (p = 0 ∧ k = 4) → σ2 p k = σ p k) ∧ cl_S w σ2 := by
  obtain ⟨r1, r3, _⟩ := h
  obtain ⟨τc, ec, ac, bc⟩ := hr_cp (σ := σ) (o := 41) (o2 := 1) (by omega)
  unfold f_X7_save
  rw [ec, nb_bnd, nb_let, nb_let]
  generalize sg_m2 41 13 1 13 σ τc = σ3 at ac bc
  have e0 : sg_up σ3 0 4 1 1 0 = nb (w 0) := by
    rw [nb_up, if_neg (by omega), bc 1 0 (by omega)]
    exact nb_g0 r1.1
  rw [e0]
  refine ⟨_, rfl, fun p k h1 h2 => ?_, nb_upE _ _ _ _, nb_Rx (hr_R ac r1 r3.2.1) r3.2.1 (fun _ _ => rfl) (fun p k hp _ _ => ?_)⟩
  · rw [nb_up, if_neg h2]
    exact bc p k h1
  · show σ3 (41 + p) k = sg_up σ3 0 4 1 (41 + p) k
    rw [nb_up, if_neg (by omega)]
theorem cl_saveA {m c : Nat} {w : Nat → Nat} {σ σ2 : sg_S} (h : cl_A m w c σ) (hx : ∀ p k, ¬ (41 ≤ p ∧ p < 54) → ¬ (p = 0 ∧ k = 4) → σ2 p k = σ p k) : cl_A m w c σ2 := by
  obtain ⟨a, b, ⟨s, d⟩, ⟨n, f, e1, e2⟩, e⟩ := h
  exact ⟨nb_Rx a b.2.1 (fun _ _ => rfl) (fun p k hp h5 h7 => (hx (1 + p) k (by omega) (by omega)).symm), b, ⟨s, cl_hx d (fun p k h1 h2 => hx p k (by omega) (by omega))⟩, ⟨n, f, e1, qb_x e2 (fun p k hp => hx (177 + p) k (by omega) (by omega))⟩, (hx 161 3 (by omega) (by omega)).trans e⟩
/-- restore -/
theorem cl_restore {m m0 c : Nat} {w w0 : Nat → Nat} {σ : sg_S} (h : cl_A m w c σ) (hS : cl_S w0 σ) (h0 : gi_I m0 w0) : ∃ σ2, f_X7_restore σ = some (nb (w0 0), σ2) ∧ (∀ p k, ¬ (1 ≤ p ∧ p < 14) → ¬ (p = 54 ∧ k = 0) → σ2 p k = σ p k) ∧ cl_A m0 w0 0 σ2 := by
  obtain ⟨r1, r3, ⟨s, c8, s8, k0, k1, hrow⟩, ⟨ln, lf, l1, l2⟩, ht⟩ := h
  obtain ⟨i1, hR⟩ := hS
  obtain ⟨τc, ec, ac, bc⟩ := hr_cp (σ := σ) (o := 1) (o2 := 41) (by omega)
  have ne : ¬ ((1 : Int32) = 0) := by decide
  unfold f_X7_restore
  rw [i1, if_neg ne, ec, nb_bnd, nb_let, nb_let]
  generalize sg_m2 1 13 41 13 σ τc = σ3 at ac bc
  have hR1 : nb_R (sg_e1 1 (sg_up σ3 54 0 0)) w0 := nb_Rx (hr_R ac hR h0.2.1) h0.2.1 (fun _ _ => rfl) (fun p k hp _ _ => by
    show σ3 (1 + p) k = sg_up σ3 54 0 0 (1 + p) k
    rw [nb_up, if_neg (by omega)])
  have ox : ∀ p k, ¬ (1 ≤ p ∧ p < 14) → ¬ (p = 54 ∧ k = 0) → sg_up σ3 54 0 0 p k = σ p k := fun p k h1 h2 => by
    rw [nb_up, if_neg h2]
    exact bc p k (by omega)
  have e0 : sg_up σ3 54 0 0 1 0 = nb (w0 0) := nb_g0 hR1.1
  rw [e0]
  exact ⟨_, rfl, ox, hR1, h0, ⟨s, by omega, s8, nb_upE _ _ _ _, (ox 54 1 (by omega) (by omega)).trans k1, fun i hi => absurd hi (Nat.not_lt_zero i)⟩, ⟨ln, lf, l1, qb_x l2 (fun p k hp => ox _ _ (by omega) (by omega))⟩, (ox 161 3 (by omega) (by omega)).trans ht⟩
