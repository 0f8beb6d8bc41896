/-! SETTLE: all credits of a month, in both at once -/
def gs_J (w : Nat → Nat) (k : Nat) : Prop := w 1 ≤ 8 ∧ w 0 < 10000 ∧ (∀ t, t < 5 → w (10 + 4 * t) ≤ 60 ∧ w (11 + 4 * t) ≤ 60 ∧ w (12 + 4 * t) ≤ 9 ∧ w (13 + 4 * t) + gc_by w t ≤ 160) ∧ gw_S w ∧ (∀ t, t < 5 → w (30 + 6 * t) = 0) ∧ (∀ c, c < w 1 → w (55 + 3 * c) < 5 ∧ 1 ≤ w (56 + 3 * c) ∧ w (56 + 3 * c) ≤ 20 ∧ w 0 ≤ w (57 + 3 * c) ∧ w (57 + 3 * c) ≤ w 0 + 6) ∧ (∀ c, c < k → w (57 + 3 * c) ≠ w 0)
def gs_c (κ : sg_S) (c : Nat) (w : Nat → Nat) (i : Nat) : Prop := κ 1 c = nb (w (55 + 3 * i)) ∧ κ 2 c = nb (w (56 + 3 * i)) ∧ κ 3 c = nb (w (57 + 3 * i))
def gs_M (κ : sg_S) (w : Nat → Nat) (n j k : Nat) : Prop := κ 0 0 = nb n ∧ w 1 + j = k + n ∧ k ≤ j ∧ (∀ c, c < k → gs_c κ c w c) ∧ (∀ c, j ≤ c → c < n → gs_c κ c w (c + k - j))
theorem gs_there {κ : sg_S} {n c : Nat} (h : κ 0 0 = nb n) (hn : n ≤ 8) (hc : c < n) : f_X1_isThere (nb c) κ = some 1 := by
  unfold f_X1_isThere
  rw [if_pos (nb_0le (by omega)), h, if_pos (nb_lt_t hc (by omega)), if_pos (show nb c < (8 : Int32) from nb_lt_t (b := 8) (by omega) (by decide))]
theorem gs_move {κ : sg_S} {n j k : Nat} (h : κ 0 0 = nb n) (hn : n ≤ 8) (hj : j < n) (hk : k < n) : ∃ κ2, f_X1_move (nb j) (nb k) κ = some κ2 ∧ (∀ p c, p < 1 ∨ 3 < p → κ2 p c = κ p c) ∧ (∀ p c, 1 ≤ p → p ≤ 3 → κ2 p c = if c = k then κ p j else κ p c) := by
  unfold f_X1_move
  rw [gs_there h hn hj, nb_bnd, if_neg nb_10, gs_there h hn hk, nb_bnd, if_neg nb_10, nb_grd (nb_i8 (by omega)), nb_grd (nb_i8 (by omega)), nb_let, nb_let, nb_let, nb_t8 (by omega), nb_t8 (by omega)]
  refine ⟨_, rfl, fun p c hp => ?_, fun p c h1 h3 => ?_⟩
  · rw [nb_up, if_neg (by omega), nb_up, if_neg (by omega), nb_up, if_neg (by omega)]
  · by_cases d : c = k
    · rw [if_pos d]
      subst d
      rcases (by omega : p = 1 ∨ p = 2 ∨ p = 3) with rfl | rfl | rfl
      · rw [nb_up, if_neg (by omega), nb_up, if_neg (by omega), nb_upE]
      · rw [nb_up, if_neg (by omega), nb_upE, nb_up, if_neg (by omega)]
      · rw [nb_upE, nb_up, if_neg (by omega), nb_up, if_neg (by omega)]
    · rw [if_neg d, nb_up, if_neg (by omega), nb_up, if_neg (by omega), nb_up, if_neg (by omega)]
theorem gs_zne {w : Nat → Nat} {t h x : Nat} (ht : t < 5) (hx : x = 0 ∨ x = 1 ∨ x = 9 ∨ 30 ≤ x) : gp_z w t h x = w x := by
  unfold gp_z
  by_cases c : h - gp_p w t h = 0
  · rw [if_pos c, gp_ne (by omega)]
  · rw [if_neg c, gw_rain_ne (fun j hj => by omega), gp_ne (by omega)]
theorem gs_z10 {w : Nat → Nat} {t h q : Nat} (ht : t < 5) (hq : q < 5) : gp_z w t h (10 + 4 * q) = w (10 + 4 * q) - (if q = t then gp_p w t h else 0) := by
  have e : gp_w w t h (10 + 4 * q) = w (10 + 4 * q) - (if q = t then gp_p w t h else 0) := by
    by_cases d : q = t
    · subst d
      rw [if_pos rfl, gp_10 hq]
    · rw [if_neg d, gp_ne (by omega)]
      try rfl
  unfold gp_z
  by_cases c : h - gp_p w t h = 0
  · rw [if_pos c, e]
  · rw [if_neg c, gw_rain_ne (fun j hj => by omega), e]
theorem gs_z13 {w : Nat → Nat} {t h q : Nat} (ht : t < 5) (hq : q < 5) : gp_z w t h (13 + 4 * q) = w (13 + 4 * q) + (if q = t then h - gp_p w t h else 0) := by
  have e : gp_w w t h (13 + 4 * q) = w (13 + 4 * q) + (if q = t then h - gp_p w t h else 0) := by
    by_cases d : q = t
    · subst d
      rw [if_pos rfl, gp_13 hq]
    · rw [if_neg d, gp_ne (by omega)]
      try rfl
  unfold gp_z
  by_cases c : h - gp_p w t h = 0
  · rw [if_pos c, e]
  · rw [if_neg c, gw_rain_ne (fun j hj => by omega), e]
theorem gs_z12 {w : Nat → Nat} {t h q : Nat} (ht : t < 5) (hq : q < 5) : gp_z w t h (12 + 4 * q) = w (12 + 4 * q) := by
  unfold gp_z
  by_cases c : h - gp_p w t h = 0
  · rw [if_pos c, gp_ne (by omega)]
  · rw [if_neg c, gw_rain_ne (fun j hj => by omega), gp_ne (by omega)]
theorem gw_c60 (r g : Nat) : gw_c r g ≤ 60 := by
  unfold gw_c
  by_cases c : r + g < 60
  · rw [if_pos c]
    omega
  · rw [if_neg c]
    omega
theorem gs_z11 {w : Nat → Nat} {t h q : Nat} (ht : t < 5) (hq : q < 5) (h60 : w (11 + 4 * q) ≤ 60) : gp_z w t h (11 + 4 * q) ≤ 60 := by
  unfold gp_z
  by_cases c : h - gp_p w t h = 0
  · rw [if_pos c, gp_ne (by omega)]
    exact h60
  · rw [if_neg c, gw_rain_at hq]
    exact gw_c60 _ _
/-- a sum without one of its parts -/
theorem gs_rm {p p2 : Nat → Bool} {h h2 : Nat → Nat} {k : Nat} : ∀ {n : Nat}, k ≤ n → (∀ c, c < k → p2 c = p c ∧ h2 c = h c) → (∀ c, k ≤ c → c < n → p2 c = p (c + 1) ∧ h2 c = h (c + 1)) → gc_s p h (n + 1) = gc_s p2 h2 n + (if p k = true then h k else 0) := by
  intro n
  induction n with
  | zero =>
    intro hk _ _
    have e : k = 0 := by omega
    subst e
    rw [gc_s]
    try rfl
  | succ n ih =>
    intro hk a b
    by_cases e : k = n + 1
    · subst e
      rw [gc_s, gc_sx (p := p) (p2 := p2) (h := h) (h2 := h2) (fun c hc => ⟨(a c hc).1.symm, (a c hc).2.symm⟩)]
    · rw [gc_s, ih (by omega) a (fun c h1 h2 => b c h1 (by omega)), gc_s, (b n (by omega) (by omega)).1, (b n (by omega) (by omega)).2]
      omega
theorem gs_byrm {w w2 : Nat → Nat} {k t : Nat} (hk : k < w 1) (h8 : w 1 ≤ 8) (h1 : w2 1 = w 1 - 1) (hl : ∀ c, c < k → w2 (55 + 3 * c) = w (55 + 3 * c) ∧ w2 (56 + 3 * c) = w (56 + 3 * c)) (hh : ∀ c, k ≤ c → c < w 1 - 1 → w2 (55 + 3 * c) = w (55 + 3 * (c + 1)) ∧ w2 (56 + 3 * c) = w (56 + 3 * (c + 1))) : gc_by w t = gc_by w2 t + (if w (55 + 3 * k) = t then w (56 + 3 * k) else 0) := by
  unfold gc_by
  rw [h1]
  obtain ⟨n, en⟩ : ∃ n, w 1 = n + 1 := ⟨w 1 - 1, by omega⟩
  rw [en]
  have q := gs_rm (p := fun c => decide (w (55 + 3 * c) = t)) (p2 := fun c => decide (w2 (55 + 3 * c) = t)) (h := fun c => w (56 + 3 * c)) (h2 := fun c => w2 (56 + 3 * c)) (k := k) (n := n) (by omega) (fun c hc => by
    have := hl c hc
    exact ⟨by rw [this.1], this.2⟩) (fun c h1 h2 => by
    have := hh c h1 (by omega)
    exact ⟨by rw [this.1], this.2⟩)
  rw [q]
  have e : n + 1 - 1 = n := by omega
  rw [e]
  by_cases d : w (55 + 3 * k) = t
  · rw [if_pos d, if_pos (decide_eq_true d)]
  · rw [if_neg d, if_neg (fun c => d (of_decide_eq_true c))]
theorem gs_Jz {w : Nat → Nat} {k : Nat} (hJ : gs_J w k) (hk : k < w 1) : gs_J (gp_z (gm_go w k) (w (55 + 3 * k)) (w (56 + 3 * k))) k ∧ (gp_z (gm_go w k) (w (55 + 3 * k)) (w (56 + 3 * k))) 0 = w 0 ∧ (gp_z (gm_go w k) (w (55 + 3 * k)) (w (56 + 3 * k))) 1 + 1 = w 1 ∧ (∀ x, 55 ≤ x → x < 55 + 3 * k → (gp_z (gm_go w k) (w (55 + 3 * k)) (w (56 + 3 * k))) x = w x) ∧ (∀ x, 55 + 3 * k ≤ x → x + 3 < 79 → (gp_z (gm_go w k) (w (55 + 3 * k)) (w (56 + 3 * k))) x = w (x + 3)) := by
  obtain ⟨j1, j2, j3, j4, j5, j6, j7⟩ := hJ
  obtain ⟨k1, k2, k3, k4, k5⟩ := j6 k hk
  have z0 : (gp_z (gm_go w k) (w (55 + 3 * k)) (w (56 + 3 * k))) 0 = w 0 := by rw [gs_zne k1 (by omega), gm_lo (by omega) (by omega)]
  have z1 : (gp_z (gm_go w k) (w (55 + 3 * k)) (w (56 + 3 * k))) 1 = w 1 - 1 := by rw [gs_zne k1 (by omega), gm_1]
  have zl : ∀ x, 30 ≤ x → x < 55 + 3 * k → (gp_z (gm_go w k) (w (55 + 3 * k)) (w (56 + 3 * k))) x = w x := fun x h1 h2 => by rw [gs_zne k1 (by omega), gm_lo (by omega) h2]
  have zh : ∀ x, 55 + 3 * k ≤ x → x + 3 < 79 → (gp_z (gm_go w k) (w (55 + 3 * k)) (w (56 + 3 * k))) x = w (x + 3) := fun x h1 h2 => by rw [gs_zne k1 (by omega), gm_hi h1 h2]
  have by_ : ∀ t, gc_by w t = gc_by (gp_z (gm_go w k) (w (55 + 3 * k)) (w (56 + 3 * k))) t + (if w (55 + 3 * k) = t then w (56 + 3 * k) else 0) := fun t => gs_byrm hk j1 z1 (fun c hc => ⟨zl _ (by omega) (by omega), zl _ (by omega) (by omega)⟩) (fun c h1 h2 => by
    refine ⟨?_, ?_⟩
    · rw [zh (55 + 3 * c) (by omega) (by omega), (by omega : 55 + 3 * c + 3 = 55 + 3 * (c + 1))]
    · rw [zh (56 + 3 * c) (by omega) (by omega), (by omega : 56 + 3 * c + 3 = 56 + 3 * (c + 1))])
  have hp := gp_ph (gm_go w k) (w (55 + 3 * k)) (w (56 + 3 * k))
  refine ⟨⟨by omega, by omega, fun t ht => ?_, fun a b ha hb => ?_, fun t ht => ?_, fun c hc => ?_, fun c hc => ?_⟩, z0, by omega, fun x h1 h2 => zl x (by omega) h2, zh⟩
  · obtain ⟨b1, b2, b3, b4⟩ := j3 t ht
    have q := by_ t
    have g10 : gm_go w k (10 + 4 * t) = w (10 + 4 * t) := gm_lo (by omega) (by omega)
    have g11 : gm_go w k (11 + 4 * t) = w (11 + 4 * t) := gm_lo (by omega) (by omega)
    have g12 : gm_go w k (12 + 4 * t) = w (12 + 4 * t) := gm_lo (by omega) (by omega)
    have g13 : gm_go w k (13 + 4 * t) = w (13 + 4 * t) := gm_lo (by omega) (by omega)
    refine ⟨?_, gs_z11 k1 ht (by rw [g11]; exact b2), by rw [gs_z12 k1 ht, g12]; exact b3, ?_⟩
    · rw [gs_z10 k1 ht, g10]
      omega
    · rw [gs_z13 k1 ht, g13]
      by_cases d : t = w (55 + 3 * k)
      · rw [if_pos d]
        rw [if_pos d.symm] at q
        omega
      · rw [if_neg d]
        rw [if_neg (fun c => d c.symm)] at q
        omega
  · rw [zl _ (by omega) (by omega), zl _ (by omega) (by omega)]
    exact j4 a b ha hb
  · rw [zl _ (by omega) (by omega)]
    exact j5 t ht
  · rw [z0]
    by_cases d : c < k
    · rw [zl _ (by omega) (by omega), zl _ (by omega) (by omega), zl _ (by omega) (by omega)]
      exact j6 c (by omega)
    · rw [zh (55 + 3 * c) (by omega) (by omega), zh (56 + 3 * c) (by omega) (by omega), zh (57 + 3 * c) (by omega) (by omega)]
      have q := j6 (c + 1) (by omega)
      rw [(by omega : 55 + 3 * c + 3 = 55 + 3 * (c + 1)), (by omega : 56 + 3 * c + 3 = 56 + 3 * (c + 1)), (by omega : 57 + 3 * c + 3 = 57 + 3 * (c + 1))]
      exact q
  · rw [z0, zl _ (by omega) (by omega)]
    exact j7 c hc
/-- the last credit: it stays, or it is paid in full just if the sun is enough for all that its town owes then -/
def gs_L (w w2 : Nat → Nat) (τ2 : sg_S) : Prop := (w (57 + 3 * (w 1 - 1)) ≠ w 0 → 1 ≤ w2 1 ∧ w2 (55 + 3 * (w2 1 - 1)) = w (55 + 3 * (w 1 - 1)) ∧ w2 (57 + 3 * (w2 1 - 1)) = w (57 + 3 * (w 1 - 1))) ∧ (w (57 + 3 * (w 1 - 1)) = w 0 → τ2 0 15 = if gc_to w (w (55 + 3 * (w 1 - 1))) (w 0) ≤ w (10 + 4 * w (55 + 3 * (w 1 - 1))) then 1 else 0)
theorem gs_to0 {w : Nat → Nat} {t d : Nat} (h : ∀ c, c < w 1 → w (57 + 3 * c) ≠ d) : gc_to w t d = 0 := by
  unfold gc_to
  have q : ∀ n, n ≤ w 1 → gc_s (fun c => decide (w (55 + 3 * c) = t) && decide (w (57 + 3 * c) = d)) (fun c => w (56 + 3 * c)) n = 0 := by
    intro n
    induction n with
    | zero =>
      intro _
      rfl
    | succ n ih =>
      intro hn
      rw [gc_s, ih (by omega)]
      show 0 + (if (decide (w (55 + 3 * n) = t) && decide (w (57 + 3 * n) = d)) = true then w (56 + 3 * n) else 0) = 0
      rw [decide_eq_false (h n (by omega)), Bool.and_false]
      try rfl
  exact q (w 1) (Nat.le_refl _)
theorem gs_torm {w w2 : Nat → Nat} {k t d : Nat} (hk : k < w 1) (h1 : w2 1 = w 1 - 1) (hl : ∀ x, 55 ≤ x → x < 55 + 3 * k → w2 x = w x) (hh : ∀ x, 55 + 3 * k ≤ x → x + 3 < 79 → w2 x = w (x + 3)) (h8 : w 1 ≤ 8) : gc_to w t d = gc_to w2 t d + (if w (55 + 3 * k) = t ∧ w (57 + 3 * k) = d then w (56 + 3 * k) else 0) := by
  unfold gc_to
  rw [h1]
  obtain ⟨n, en⟩ : ∃ n, w 1 = n + 1 := ⟨w 1 - 1, by omega⟩
  rw [en]
  have q := gs_rm (p := fun c => decide (w (55 + 3 * c) = t) && decide (w (57 + 3 * c) = d)) (p2 := fun c => decide (w2 (55 + 3 * c) = t) && decide (w2 (57 + 3 * c) = d)) (h := fun c => w (56 + 3 * c)) (h2 := fun c => w2 (56 + 3 * c)) (k := k) (n := n) (by omega) (fun c hc => by
    refine ⟨?_, hl _ (by omega) (by omega)⟩
    show (decide (w2 (55 + 3 * c) = t) && decide (w2 (57 + 3 * c) = d)) = (decide (w (55 + 3 * c) = t) && decide (w (57 + 3 * c) = d))
    rw [hl (55 + 3 * c) (by omega) (by omega), hl (57 + 3 * c) (by omega) (by omega)]) (fun c h1 h2 => by
    refine ⟨?_, ?_⟩
    · show (decide (w2 (55 + 3 * c) = t) && decide (w2 (57 + 3 * c) = d)) = (decide (w (55 + 3 * (c + 1)) = t) && decide (w (57 + 3 * (c + 1)) = d))
      rw [hh (55 + 3 * c) (by omega) (by omega), hh (57 + 3 * c) (by omega) (by omega), (by omega : 55 + 3 * c + 3 = 55 + 3 * (c + 1)), (by omega : 57 + 3 * c + 3 = 57 + 3 * (c + 1))]
    · show w2 (56 + 3 * c) = w (56 + 3 * (c + 1))
      rw [hh (56 + 3 * c) (by omega) (by omega), (by omega : 56 + 3 * c + 3 = 56 + 3 * (c + 1))])
  rw [q]
  have e : n + 1 - 1 = n := by omega
  rw [e]
  by_cases f : w (55 + 3 * k) = t ∧ w (57 + 3 * k) = d
  · rw [if_pos f, if_pos (by rw [decide_eq_true f.1, decide_eq_true f.2]; rfl)]
  · rw [if_neg f, if_neg (fun c => f ⟨of_decide_eq_true (Bool.and_eq_true_iff.mp c).1, of_decide_eq_true (Bool.and_eq_true_iff.mp c).2⟩)]
/-- one step of it -/
theorem gs_Lz {w W w2 : Nat → Nat} {k t h : Nat} {τ2 τa : sg_S} (hJ : gs_J w k) (hk : k < w 1) (due : w (57 + 3 * k) = w 0) (ht : t = w (55 + 3 * k)) (hh : h = w (56 + 3 * k)) (eW : W = gp_z (gm_go w k) t h) (gJ : gs_J W k) (g0 : W 0 = w 0) (g1 : W 1 + 1 = w 1) (gl : ∀ x, 55 ≤ x → x < 55 + 3 * k → W x = w x) (gh : ∀ x, 55 + 3 * k ≤ x → x + 3 < 79 → W x = w (x + 3)) (rd : τa 0 15 = if h - gp_p w t h = 0 then 1 else 0) (c1 : k = W 1 → τ2 0 15 = τa 0 15) (c2 : 1 ≤ W 1 → gs_L W w2 τ2) : gs_L w w2 τ2 := by
  obtain ⟨j1, j2, j3, j4, j5, j6, j7⟩ := id hJ
  obtain ⟨k1, k2, k3, k4, k5⟩ := j6 k hk
  have ep : ∀ q, q < 5 → W (10 + 4 * q) = w (10 + 4 * q) - (if q = t then gp_p w t h else 0) := fun q hq => by
    rw [eW, gs_z10 (by omega) hq, gm_lo (by omega) (by omega)]
    unfold gp_p
    rw [gm_lo (by omega) (by omega)]
  have to := fun t2 => gs_torm (t := t2) (d := w 0) hk (by omega : W 1 = w 1 - 1) gl gh j1
  by_cases last : k = w 1 - 1
  · refine ⟨fun c => absurd (by rw [← last]; exact due) c, fun _ => ?_⟩
    have z : ∀ t2, gc_to W t2 (w 0) = 0 := fun t2 => gs_to0 (fun c hc => by
      rw [← g0]
      exact gJ.2.2.2.2.2.2 c (by omega))
    rw [← last, c1 (by omega), rd, to, z, ← ht, ← hh, if_pos (show t = t ∧ w (57 + 3 * k) = w 0 from ⟨rfl, due⟩)]
    unfold gp_p
    by_cases e : w (10 + 4 * t) < h
    · rw [if_pos e, if_neg (by omega), if_neg (by omega)]
    · rw [if_neg e, if_pos (by omega), if_pos (by omega)]
  · obtain ⟨a, b⟩ := c2 (by omega)
    have l5 : W (55 + 3 * (W 1 - 1)) = w (55 + 3 * (w 1 - 1)) := by rw [gh _ (by omega) (by omega), (by omega : 55 + 3 * (W 1 - 1) + 3 = 55 + 3 * (w 1 - 1))]
    have l6 : W (56 + 3 * (W 1 - 1)) = w (56 + 3 * (w 1 - 1)) := by rw [gh _ (by omega) (by omega), (by omega : 56 + 3 * (W 1 - 1) + 3 = 56 + 3 * (w 1 - 1))]
    have l7 : W (57 + 3 * (W 1 - 1)) = w (57 + 3 * (w 1 - 1)) := by rw [gh _ (by omega) (by omega), (by omega : 57 + 3 * (W 1 - 1) + 3 = 57 + 3 * (w 1 - 1))]
    rw [l5, l7, g0] at a b
    refine ⟨a, fun dl => ?_⟩
    have q := b dl
    obtain ⟨m1, m2, m3, m4, m5⟩ := j6 (w 1 - 1) (by omega)
    obtain ⟨T, hT⟩ : ∃ T, T = w (55 + 3 * (w 1 - 1)) := ⟨_, rfl⟩
    rw [← hT] at q m1 l5 ⊢
    rw [q, to]
    have s := ep T m1
    have lo : w (56 + 3 * (w 1 - 1)) ≤ gc_to W T (w 0) := by
      obtain ⟨n, en⟩ : ∃ n, W 1 = n + 1 := ⟨W 1 - 1, by omega⟩
      have en2 : n = W 1 - 1 := by omega
      have e2 : gc_to W T (w 0) = gc_s (fun c => decide (W (55 + 3 * c) = T) && decide (W (57 + 3 * c) = w 0)) (fun c => W (56 + 3 * c)) n + W (56 + 3 * n) := by
        unfold gc_to
        rw [en, gc_s, if_pos (by
          show (decide (W (55 + 3 * n) = T) && decide (W (57 + 3 * n) = w 0)) = true
          rw [Bool.and_eq_true]
          exact ⟨decide_eq_true (by rw [en2, l5]), decide_eq_true (by rw [en2, l7]; exact dl)⟩)]
      rw [e2, en2, l6]
      exact Nat.le_add_left _ _
    by_cases e : T = t
    · rw [if_pos (show w (55 + 3 * k) = T ∧ w (57 + 3 * k) = w 0 from ⟨by rw [e, ht], due⟩)]
      rw [if_pos e] at s
      rw [e] at lo s ⊢
      rw [s, ← hh]
      unfold gp_p
      by_cases f : w (10 + 4 * t) < h
      · rw [if_pos f, if_neg (by omega), if_neg (by omega)]
      · rw [if_neg f]
        by_cases g : gc_to W t (w 0) ≤ w (10 + 4 * t) - h
        · rw [if_pos g, if_pos (by omega)]
        · rw [if_neg g, if_neg (by omega)]
    · rw [if_neg (show ¬ (w (55 + 3 * k) = T ∧ w (57 + 3 * k) = w 0) from fun c => e (c.1.symm.trans ht.symm))]
      rw [if_neg e] at s
      rw [s, Nat.add_zero, Nat.sub_zero]
theorem ge_Tz {w : Nat → Nat} {k t h : Nat} (ht : t < 5) (hh : h ≤ 20) (hn : 1 ≤ w 1) : ge_T w (gp_z (gm_go w k) t h) 1 := by
  have g : ∀ x, x ≠ 1 → x < 55 → gm_go w k x = w x := fun x h1 h2 => gm_lo h1 (by omega)
  have ep := gp_ph (gm_go w k) t h
  have es := gp_ps (gm_go w k) t h
  have g10 := g (10 + 4 * t) (by omega) (by omega)
  have z1 : gp_z (gm_go w k) t h 1 = w 1 - 1 := by rw [ge_z (by decide), if_neg (by decide), if_neg (by decide), if_neg (by decide), if_neg (by decide), gm_1, Nat.add_zero]
  have z2 : gp_z (gm_go w k) t h 2 = w 2 := by rw [ge_z (by decide), if_neg (by decide), if_neg (by decide), if_neg (by decide), if_neg (by decide), g 2 (by decide) (by decide), Nat.add_zero]
  have z4 : gp_z (gm_go w k) t h 4 = w 4 := by rw [ge_z (by decide), if_neg (by decide), if_neg (by decide), if_neg (by decide), if_neg (by decide), g 4 (by decide) (by decide), Nat.add_zero]
  have z5 : gp_z (gm_go w k) t h 5 = w 5 := by rw [ge_z (by decide), if_neg (by decide), if_neg (by decide), if_neg (by decide), if_neg (by decide), g 5 (by decide) (by decide), Nat.add_zero]
  have z9 : gp_z (gm_go w k) t h 9 = w 9 := by rw [ge_z (by decide), if_neg (by decide), if_neg (by decide), if_neg (by decide), if_neg (by decide), g 9 (by decide) (by decide), Nat.add_zero]
  have z3 : gp_z (gm_go w k) t h 3 = w 3 + gp_p (gm_go w k) t h := by rw [ge_z (by decide), if_pos rfl, g 3 (by decide) (by decide)]
  have z6 : gp_z (gm_go w k) t h 6 = w 6 + 2 * (h - gp_p (gm_go w k) t h) := by rw [ge_z (by decide), if_neg (by decide), if_pos rfl, g 6 (by decide) (by decide)]
  have z7 : gp_z (gm_go w k) t h 7 = w 7 + 1 := by rw [ge_z (by decide), if_neg (by decide), if_neg (by decide), if_pos rfl, g 7 (by decide) (by decide)]
  have z8 : gp_z (gm_go w k) t h 8 ≤ w 8 + 1 := by
    rw [ge_z (by decide), if_neg (by decide), if_neg (by decide), if_neg (by decide), if_pos rfl, g 8 (by decide) (by decide)]
    split <;> omega
  have hs := ge_su (w := gm_go w k) (w2 := gp_z (gm_go w k) t h) ht (v := gm_go w k (10 + 4 * t) - gp_p (gm_go w k) t h) (fun q hq => by
    rw [gs_z10 ht hq]
    by_cases c : q = t
    · subst c
      rw [if_pos rfl, if_pos rfl]
    · rw [if_neg c, if_neg c, Nat.sub_zero])
  have hg : ge_s (gm_go w k) = ge_s w := ge_sx (fun q hq => g _ (by omega) (by omega))
  have hl := ge_le (w := gm_go w k) ht
  exact ⟨by omega, z2, z4, z5, z9, fun c => by omega, by omega, by omega, by omega, by omega⟩
theorem gs_loop : ∀ (m n1 n2 j k n u : Nat) (ρ τ : sg_S) (w : Nat → Nat), j + m = n → m < n1 → m < n2 → n ≤ 8 → nb_N ρ w → gs_M (sg_e1 8 ρ) w n j k → nb_V (τ 1) w → gs_J w k → ∃ ρ2 τ2 w2 u2, f_X3_endCredits_L6 n1 (nb u) (nb k) (nb j) ρ = some (nb u2, ρ2) ∧ f_X8_settles_L4 n2 (nb u) (nb k) τ = some (nb u2, τ2) ∧ nb_R ρ2 w2 ∧ nb_V (τ2 1) w2 ∧ gs_J w2 (w2 1) ∧ nb_F τ τ2 ∧ u2 ≤ u + m ∧ w2 0 = w 0 ∧ (k = w 1 → τ2 0 15 = τ 0 15) ∧ (1 ≤ w 1 → gs_L w w2 τ2) ∧ ge_T w w2 m := by
  intro m
  induction m with
  | zero =>
    intro n1 n2 j k n u ρ τ w hj h1 h2 h8 hN hM hV hJ
    obtain ⟨n1, rfl⟩ : ∃ k, n1 = k + 1 := ⟨n1 - 1, by omega⟩
    obtain ⟨n2, rfl⟩ : ∃ k, n2 = k + 1 := ⟨n2 - 1, by omega⟩
    obtain ⟨m0, m1, m2, m3, m4⟩ := hM
    have e8 : ρ 8 0 = nb n := m0
    have ek : w 1 = k := by omega
    refine ⟨sg_up ρ 8 0 (nb k), τ, w, u, ?_, ?_, ?_, hV, ?_, nb_Frf τ, by omega, rfl, fun _ => rfl, fun h1 => ⟨fun _ => ⟨h1, rfl, rfl⟩, fun c => absurd c (hJ.2.2.2.2.2.2 _ (by omega))⟩, ge_Tr w 0⟩
    · rw [f_X3_endCredits_L6, e8, if_neg (nb_lt_f (by omega) (by omega)), nb_let]
    · rw [f_X8_settles_L4, hV 1 (by decide), if_neg (nb_lt_f (by omega) (by omega))]
    · refine ⟨nb_Nx hN (fun _ _ _ => rfl) (fun p c hp => ?_), ?_, fun c hc => ?_⟩
      · rw [nb_up, if_neg (by omega)]
      · show sg_up ρ 8 0 (nb k) 8 0 = _
        rw [nb_upE, ek]
      · have q := m3 c (by omega)
        show sg_up ρ 8 0 (nb k) 9 c = _ ∧ sg_up ρ 8 0 (nb k) 10 c = _ ∧ sg_up ρ 8 0 (nb k) 11 c = _
        rw [nb_up, if_neg (by omega), nb_up, if_neg (by omega), nb_up, if_neg (by omega)]
        exact q
    · rw [ek]
      exact hJ
  | succ m ih =>
    intro n1 n2 j k n u ρ τ w hj h1 h2 h8 hN hM hV hJ
    obtain ⟨n1, rfl⟩ : ∃ k, n1 = k + 1 := ⟨n1 - 1, by omega⟩
    obtain ⟨n2, rfl⟩ : ∃ k, n2 = k + 1 := ⟨n2 - 1, by omega⟩
    have hM0 := hM
    obtain ⟨m0, m1, m2, m3, m4⟩ := hM
    have e8 : ρ 8 0 = nb n := m0
    have hk : k < w 1 := by omega
    have hkn : k < n := by omega
    have hjn : j < n := by omega
    obtain ⟨c1, c2, c3⟩ := m4 j (Nat.le_refl j) hjn
    rw [(by omega : j + k - j = k)] at c1 c2 c3
    have d9 : ρ 9 j = nb (w (55 + 3 * k)) := c1
    have d10 : ρ 10 j = nb (w (56 + 3 * k)) := c2
    have d11 : ρ 11 j = nb (w (57 + 3 * k)) := c3
    obtain ⟨j1, j2, j3, j4, j5, j6, j7⟩ := id hJ
    obtain ⟨k1, k2, k3, k4, k5⟩ := j6 k hk
    have e0 : ρ 0 0 = nb (w 0) := nb_g0 hN
    by_cases due : w (57 + 3 * k) = w 0
    · obtain ⟨gJ, g0, g1, gl, gh⟩ := gs_Jz hJ hk
      have hNg : nb_N ρ (gm_go w k) := nb_Nx hN (fun x hx h1 => (gm_lo h1 (by omega)).symm) (fun _ _ _ => rfl)
      have g10 : gm_go w k (10 + 4 * w (55 + 3 * k)) = w (10 + 4 * w (55 + 3 * k)) := gm_lo (by omega) (by omega)
      have b10 := (j3 _ k1).1
      obtain ⟨ρa, pa, pb, pc⟩ := gp_class hNg k1 (h := w (56 + 3 * k)) (by omega) (by omega)
      have ep : gp_p (gm_go w k) (w (55 + 3 * k)) (w (56 + 3 * k)) = gp_p w (w (55 + 3 * k)) (w (56 + 3 * k)) := by
        unfold gp_p
        rw [g10]
      obtain ⟨τa, ra, rb, rc, rd⟩ := gp_ref (κ4 := fun z1' z2' σz' => f_X8_settles_L4 n2 z1' z2' σz') (u := u) hV (by omega) (by omega : k < 8) k1 j4 (fun t ht => by have := (j3 t ht).2.1; omega) (h := w (56 + 3 * k)) (by omega)
      -- the reference's step
      have refstep : f_X8_settles_L4 (n2 + 1) (nb u) (nb k) τ = f_X8_settles_L4 n2 (nb (u + if w (56 + 3 * k) - gp_p w (w (55 + 3 * k)) (w (56 + 3 * k)) = 0 then 0 else 1)) (nb k) τa := by
        rw [f_X8_settles_L4, hV 1 (by decide), if_pos (nb_lt_t hk (by omega)), nb_in2, nb_bnd, nb_grd (nb_i79 (by omega)), nb_t79 (by omega), hV (57 + 3 * k) (by omega), hV 0 (by decide), if_pos (by rw [due]), nb_in0, nb_bnd, nb_grd (nb_i79 (by omega)), nb_t79 (by omega), hV (55 + 3 * k) (by omega), nb_let, nb_in1, nb_bnd, nb_grd (nb_i79 (by omega)), nb_t79 (by omega), hV (56 + 3 * k) (by omega), nb_let, nb_at0, nb_bnd, nb_grd (nb_i79 (by omega)), nb_t79 (by omega), hV (10 + 4 * w (55 + 3 * k)) (by omega), nb_let, ← ra]
        unfold gp_p
        by_cases c : w (10 + 4 * w (55 + 3 * k)) < w (56 + 3 * k)
        · rw [if_pos (nb_lt_t c (by omega)), if_pos c]
        · rw [if_neg (nb_lt_f (by omega) (by omega)), if_neg c]
      have mid : ∀ σ : sg_S, (∀ p c, p = 8 ∨ p = 9 ∨ p = 10 ∨ p = 11 → σ p c = ρ p c) → gs_M (sg_e1 8 σ) (gp_z (gm_go w k) (w (55 + 3 * k)) (w (56 + 3 * k))) n (j + 1) k := by
        intro σ hσ
        refine ⟨?_, by omega, by omega, fun c hc => ?_, fun c h1 h2 => ?_⟩
        · show σ 8 0 = _
          rw [hσ 8 0 (by omega)]
          exact e8
        · show σ 9 c = _ ∧ σ 10 c = _ ∧ σ 11 c = _
          rw [hσ 9 c (by omega), hσ 10 c (by omega), hσ 11 c (by omega), gl _ (by omega) (by omega), gl _ (by omega) (by omega), gl _ (by omega) (by omega)]
          exact m3 c hc
        · show σ 9 c = _ ∧ σ 10 c = _ ∧ σ 11 c = _
          have q := m4 c (by omega) h2
          unfold gs_c at q
          rw [hσ 9 c (by omega), hσ 10 c (by omega), hσ 11 c (by omega), gh _ (by omega) (by omega), gh _ (by omega) (by omega), gh _ (by omega) (by omega), (by omega : 55 + 3 * (c + k - (j + 1)) + 3 = 55 + 3 * (c + k - j)), (by omega : 56 + 3 * (c + k - (j + 1)) + 3 = 56 + 3 * (c + k - j)), (by omega : 57 + 3 * (c + k - (j + 1)) + 3 = 57 + 3 * (c + k - j))]
          exact q
      by_cases z : w (56 + 3 * k) - gp_p w (w (55 + 3 * k)) (w (56 + 3 * k)) = 0
      · have ez : gp_z (gm_go w k) (w (55 + 3 * k)) (w (56 + 3 * k)) = gp_w (gm_go w k) (w (55 + 3 * k)) (w (56 + 3 * k)) := by
          unfold gp_z
          rw [ep, if_pos z]
        have hN2 : nb_N ρa (gp_z (gm_go w k) (w (55 + 3 * k)) (w (56 + 3 * k))) := by
          rw [ez]
          exact pb
        obtain ⟨ρ2, τ2, w2, u2, x1, x2, x3, x4, x5, x6, x7, x8, x9, x10, x11⟩ := ih n1 n2 (j + 1) k n u ρa τa _ (by omega) (by omega) (by omega) h8 hN2 (mid ρa (fun p c hp => by rw [pc p (by omega) (by omega)])) rb gJ
        refine ⟨ρ2, τ2, w2, u2, ?_, ?_, x3, x4, x5, nb_Ftr rc x6, by omega, by omega, fun c => absurd c (by omega), fun _ => gs_Lz hJ hk due rfl rfl rfl gJ g0 g1 gl gh rd x9 x10, ge_Tt (ge_Tz k1 k3 (by omega)) x11⟩
        · rw [f_X3_endCredits_L6, e8, if_pos (nb_lt_t hjn (by omega)), nb_grd (nb_i8 (by omega)), nb_t8 (by omega), d11, e0, if_pos (by rw [due]), d9, d10, pa, nb_bnd2, ep, z, if_neg nb_npos, nb_succ]
          exact x1
        · rw [refstep, if_pos z]
          exact x2
      · obtain ⟨ρb, qa, qb, qc⟩ := gr_class pb (gp_S (fun a b ha hb => by rw [gm_lo (by omega) (by omega), gm_lo (by omega) (by omega)]; exact j4 a b ha hb) k1) (fun t ht => by
          rw [gp_ne (by omega), gm_lo (by omega) (by omega)]
          have := (j3 t ht).2.1
          omega) k1 (H := 2 * (w (56 + 3 * k) - gp_p (gm_go w k) (w (55 + 3 * k)) (w (56 + 3 * k)))) (by omega)
        have ez : gp_z (gm_go w k) (w (55 + 3 * k)) (w (56 + 3 * k)) = gw_rain (gp_w (gm_go w k) (w (55 + 3 * k)) (w (56 + 3 * k))) (gf_g (gw_a (gp_w (gm_go w k) (w (55 + 3 * k)) (w (56 + 3 * k)))) (w (55 + 3 * k)) (2 * (w (56 + 3 * k) - gp_p (gm_go w k) (w (55 + 3 * k)) (w (56 + 3 * k))))) 5 := by
          unfold gp_z
          rw [if_neg (by rw [ep]; exact z)]
        have hN2 : nb_N ρb (gp_z (gm_go w k) (w (55 + 3 * k)) (w (56 + 3 * k))) := by
          rw [ez]
          exact qb
        obtain ⟨ρ2, τ2, w2, u2, x1, x2, x3, x4, x5, x6, x7, x8, x9, x10, x11⟩ := ih n1 n2 (j + 1) k n (u + 1) ρb τa _ (by omega) (by omega) (by omega) h8 hN2 (mid ρb (fun p c hp => by rw [qc p (by omega) (by omega), pc p (by omega) (by omega)])) rb gJ
        refine ⟨ρ2, τ2, w2, u2, ?_, ?_, x3, x4, x5, nb_Ftr rc x6, by omega, by omega, fun c => absurd c (by omega), fun _ => gs_Lz hJ hk due rfl rfl rfl gJ g0 g1 gl gh rd x9 x10, ge_Tt (ge_Tz k1 k3 (by omega)) x11⟩
        · have e2 : (2 : Int32) * nb (w (56 + 3 * k) - gp_p (gm_go w k) (w (55 + 3 * k)) (w (56 + 3 * k))) = nb (2 * (w (56 + 3 * k) - gp_p (gm_go w k) (w (55 + 3 * k)) (w (56 + 3 * k)))) := nb_mul 2 _
          have e9 : ρa 9 j = nb (w (55 + 3 * k)) := by rw [pc 9 (by omega) (by omega), d9]
          rw [f_X3_endCredits_L6, e8, if_pos (nb_lt_t hjn (by omega)), nb_grd (nb_i8 (by omega)), nb_t8 (by omega), d11, e0, if_pos (by rw [due]), d9, d10, pa, nb_bnd2, if_pos (nb_pos (by rw [ep]; omega) (by omega)), e9, e2, qa, nb_bnd2, nb_succ, nb_succ]
          exact x1
        · rw [refstep, if_neg z]
          exact x2
    · obtain ⟨κ2, va, vb, vc⟩ := gs_move (κ := sg_e1 8 ρ) m0 h8 hjn hkn
      have hN2 : nb_N (sg_m1 8 4 ρ κ2) w := nb_Nx hN (fun _ _ _ => rfl) (fun p c hp => by rw [nb_m1, if_neg (by omega)])
      have at8 : ∀ p c, p < 4 → sg_e1 8 (sg_m1 8 4 ρ κ2) p c = κ2 p c := by
        intro p c hp
        show sg_m1 8 4 ρ κ2 (8 + p) c = _
        rw [nb_m1, if_pos (by omega), (by omega : 8 + p - 8 = p)]
      have hM2 : gs_M (sg_e1 8 (sg_m1 8 4 ρ κ2)) w n (j + 1) (k + 1) := by
        refine ⟨?_, by omega, by omega, fun c hc => ?_, fun c h1 h2 => ?_⟩
        · rw [at8 0 0 (by omega), vb 0 0 (by omega)]
          exact m0
        · unfold gs_c
          rw [at8 1 c (by omega), at8 2 c (by omega), at8 3 c (by omega), vc 1 c (by omega) (by omega), vc 2 c (by omega) (by omega), vc 3 c (by omega) (by omega)]
          by_cases d : c = k
          · rw [if_pos d, if_pos d, if_pos d, d]
            exact ⟨c1, c2, c3⟩
          · rw [if_neg d, if_neg d, if_neg d]
            exact m3 c (by omega)
        · unfold gs_c
          rw [at8 1 c (by omega), at8 2 c (by omega), at8 3 c (by omega), vc 1 c (by omega) (by omega), vc 2 c (by omega) (by omega), vc 3 c (by omega) (by omega), if_neg (by omega), if_neg (by omega), if_neg (by omega), (by omega : c + (k + 1) - (j + 1) = c + k - j)]
          exact m4 c (by omega) h2
      have hJ2 : gs_J w (k + 1) := ⟨j1, j2, j3, j4, j5, j6, fun c hc => by
        by_cases d : c = k
        · rw [d]
          exact due
        · exact j7 c (by omega)⟩
      obtain ⟨ρ2, τ2, w2, u2, x1, x2, x3, x4, x5, x6, x7, x8, x9, x10, x11⟩ := ih n1 n2 (j + 1) (k + 1) n u (sg_m1 8 4 ρ κ2) τ w (by omega) (by omega) (by omega) h8 hN2 hM2 hV hJ2
      refine ⟨ρ2, τ2, w2, u2, ?_, ?_, x3, x4, x5, x6, by omega, x8, fun c => absurd c (by omega), x10, ge_Tm x11 (Nat.le_succ m)⟩
      · rw [f_X3_endCredits_L6, e8, if_pos (nb_lt_t hjn (by omega)), nb_grd (nb_i8 (by omega)), nb_t8 (by omega), d11, e0, if_neg (nb_ne due (by omega) (by omega)), va, nb_bnd, nb_let, nb_succ, nb_succ]
        exact x1
      · rw [f_X8_settles_L4, hV 1 (by decide), if_pos (nb_lt_t hk (by omega)), nb_in2, nb_bnd, nb_grd (nb_i79 (by omega)), nb_t79 (by omega), hV (57 + 3 * k) (by omega), hV 0 (by decide), if_neg (nb_ne due (by omega) (by omega)), nb_succ]
        exact x2
