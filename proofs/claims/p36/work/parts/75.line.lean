/-! LINES: a town, the credits; a character of the line; a character more of the input -/
theorem qb_x {κ κ2 : sg_S} {n : Nat} {f : Nat → Nat} (h : qb_I κ n f) (hx : ∀ p k, p < 2 → κ2 p k = κ p k) : qb_I κ2 n f := by
  obtain ⟨r, ⟨s1, s2, s3, s4⟩, hn, h3, hf⟩ := h
  refine ⟨r, ⟨s1, (hx 0 0 (by decide)).trans s2, (hx 0 1 (by decide)).trans s3, fun i hi => ?_⟩, hn, (hx 0 3 (by decide)).trans h3, fun i hi => ?_⟩
  · rw [hx 1 i (by decide)]
    exact s4 i hi
  · rw [hx 1 i (by decide)]
    exact hf i hi
def ly_c (c : Nat) (s : Nat × (Nat → Nat)) : Nat × (Nat → Nat) := (s.1 + 1, gw_u s.2 s.1 c)
def ly_i (v : Nat) (s : Nat × (Nat → Nat)) : Nat × (Nat → Nat) := (s.1 + qd_l v, qd_f s.2 s.1 v)
def ly_0 : Nat × (Nat → Nat) := (0, fun _ => 0)
def ly_C (m : Nat) (σ0 σ : sg_S) (s : Nat × (Nat → Nat)) : Prop := s.1 ≤ m ∧ qb_I (sg_e1 177 σ) s.1 s.2 ∧ ∀ p k, p < 177 → σ p k = σ0 p k
def ly_M (m : Nat) (τ0 τ : sg_S) (s : Nat × (Nat → Nat)) : Prop := s.1 ≤ m ∧ ql_I τ s.1 s.2 ∧ ql_F τ0 τ
theorem ly_m1 {σ0 σ κ2 : sg_S} {m : Nat} {s : Nat × (Nat → Nat)} (hm : s.1 ≤ m) (h : qb_I κ2 s.1 s.2) (hσ : ∀ p k, p < 177 → σ p k = σ0 p k) : ly_C m σ0 (sg_m1 177 2 σ κ2) s := by
  refine ⟨hm, qb_x h (fun p k hp => ?_), fun p k hp => ?_⟩
  · show sg_m1 177 2 σ κ2 (177 + p) k = κ2 p k
    rw [nb_m1, if_pos (by omega), (by omega : 177 + p - 177 = p)]
  · rw [nb_m1, if_neg (by omega)]
    exact hσ p k hp
theorem ly_cc {β : Type} {σ0 σ : sg_S} {m c : Nat} {s : Nat × (Nat → Nat)} {R : β → Prop} {g : sg_S → Option β} (h : ly_C m σ0 σ s) (hm : m ≤ 88) (hc : c ≤ 127) (k : ∀ σ2, ly_C (m + 1) σ0 σ2 (ly_c c s) → wk_K (g σ2) R) : wk_K (sg_bnd (f_J4_append_cf468 (nb c) (sg_e1 177 σ)) (fun τ => sg_let (sg_m1 177 2 σ τ) g)) R := by
  obtain ⟨h1, h2, h3⟩ := h
  obtain ⟨κ2, a, b⟩ := qb_chr h2 (by omega) hc
  exact wk_bnd a (wk_lets (k _ (ly_m1 (s := ly_c c s) (Nat.succ_le_succ h1) b h3)))
theorem ly_ci {β : Type} {σ0 σ : sg_S} {m v : Nat} (d : Nat) {s : Nat × (Nat → Nat)} {R : β → Prop} {g : sg_S → Option β} (h : ly_C m σ0 σ s) (hm : m ≤ 84) (hv : v < 10000) (hd : qd_l v ≤ d) (k : ∀ σ2, ly_C (m + d) σ0 σ2 (ly_i v s) → wk_K (g σ2) R) : wk_K (sg_bnd (f_J4_append_bf812 (nb v) (sg_e1 177 σ)) (fun τ => sg_let (sg_m1 177 2 σ τ) g)) R := by
  obtain ⟨h1, h2, h3⟩ := h
  obtain ⟨κ2, a, b⟩ := qb_int h2 (by omega) hv
  exact wk_bnd a (wk_lets (k _ (ly_m1 (s := ly_i v s) (Nat.add_le_add h1 hd) b h3)))
theorem ly_mc {β : Type} {τ0 τ : sg_S} {m c : Nat} {s : Nat × (Nat → Nat)} {R : β → Prop} {g : sg_S → Option β} (h : ly_M m τ0 τ s) (hm : m ≤ 88) (k : ∀ τ2, ly_M (m + 1) τ0 τ2 (ly_c c s) → wk_K (g τ2) R) : wk_K (sg_bnd (f_X8_writes (nb c) τ) g) R := by
  obtain ⟨h1, h2, h3⟩ := h
  obtain ⟨τ2, a, b, d⟩ := ql_chr (c := c) h2 (by omega)
  exact wk_bnd a (k _ ⟨Nat.succ_le_succ h1, b, ql_Ftr h3 d⟩)
theorem ly_mi {β : Type} {τ0 τ : sg_S} {m v : Nat} (d : Nat) {s : Nat × (Nat → Nat)} {R : β → Prop} {g : sg_S → Option β} (h : ly_M m τ0 τ s) (hm : m ≤ 84) (hv : v < 10000) (hd : qd_l v ≤ d) (k : ∀ τ2, ly_M (m + d) τ0 τ2 (ly_i v s) → wk_K (g τ2) R) : wk_K (sg_bnd (f_X8_writesNumber (nb v) τ) g) R := by
  obtain ⟨h1, h2, h3⟩ := h
  obtain ⟨τ2, a, b, e⟩ := ql_int h2 (by omega) hv
  exact wk_bnd a (k _ ⟨Nat.add_le_add h1 hd, b, ql_Ftr h3 e⟩)
theorem qd_l1 {v : Nat} (h : v < 10) : qd_l v ≤ 1 := by
  unfold qd_l
  rw [if_pos h]
  exact Nat.le_refl 1
theorem qd_l2 {v : Nat} (h : v < 100) : qd_l v ≤ 2 := by
  unfold qd_l
  repeat' split
  all_goals omega
def ly_w (w : Nat → Nat) (t : Nat) : Nat × (Nat → Nat) := ly_c 117 (ly_i (w (12 + 4 * t)) (ly_c 114 (ly_i (w (11 + 4 * t)) (ly_c 115 (ly_i (w (10 + 4 * t)) (ly_c 58 (ly_i t ly_0)))))))
def ly_v (w : Nat → Nat) (t : Nat) : Nat × (Nat → Nat) := if w (13 + 4 * t) = 0 then ly_w w t else ly_c 97 (ly_i (w (13 + 4 * t)) (ly_w w t))
theorem ly_town1 {σ : sg_S} {w : Nat → Nat} {t n0 : Nat} {f0 : Nat → Nat} (hR : nb_R (sg_e1 1 σ) w) (ht : t < 5) (b1 : w (10 + 4 * t) ≤ 60) (b2 : w (11 + 4 * t) ≤ 60) (b3 : w (12 + 4 * t) ≤ 9) (b4 : w (13 + 4 * t) ≤ 160) (hb : qb_I (sg_e1 177 σ) n0 f0) : wk_K (f_X7_write (nb t) σ) (fun v => v.1 = nb (ly_v w t).1 ∧ ly_C 88 σ v.2 (ly_v w t)) := by
  have s2 : σ 2 t = nb (w (10 + 4 * t)) := nb_g1 hR.1 ht
  have s3 : σ 3 t = nb (w (11 + 4 * t)) := nb_g2 hR.1 ht
  have s4 : σ 4 t = nb (w (12 + 4 * t)) := nb_g3 hR.1 ht
  have s5 : σ 5 t = nb (w (13 + 4 * t)) := nb_g4 hR.1 ht
  obtain ⟨κ2, a, b⟩ := qb_set hb (fun _ => 0)
  unfold f_X7_write
  refine wk_bnd (nb_townE ht).1 (wk_f nb_10 (wk_bnd a (wk_lets ?_)))
  have h0 : ly_C 0 σ (sg_m1 177 2 σ κ2) ly_0 := ly_m1 (s := ly_0) (Nat.le_refl 0) b (fun _ _ _ => rfl)
  refine ly_ci 1 h0 (by decide) (by omega) (qd_l1 (by omega)) (fun σa ha => ?_)
  refine ly_cc (c := 58) ha (by decide) (by decide) (fun σb hb => wk_grd (nb_i5 ht) ?_)
  rw [nb_t5 ht, show σb 2 t = nb (w (10 + 4 * t)) from (hb.2.2 2 t (by decide)).trans s2]
  refine ly_ci 2 hb (by decide) (by omega) (qd_l2 (by omega)) (fun σc hc => ?_)
  refine ly_cc (c := 115) hc (by decide) (by decide) (fun σd hd => ?_)
  rw [show σd 3 t = nb (w (11 + 4 * t)) from (hd.2.2 3 t (by decide)).trans s3]
  refine ly_ci 2 hd (by decide) (by omega) (qd_l2 (by omega)) (fun σe he => ?_)
  refine ly_cc (c := 114) he (by decide) (by decide) (fun σf hf => ?_)
  rw [show σf 4 t = nb (w (12 + 4 * t)) from (hf.2.2 4 t (by decide)).trans s4]
  refine ly_ci 1 hf (by decide) (by omega) (qd_l1 (by omega)) (fun σg hg => ?_)
  refine ly_cc (c := 117) hg (by decide) (by decide) (fun σh hh => ?_)
  rw [show σh 5 t = nb (w (13 + 4 * t)) from (hh.2.2 5 t (by decide)).trans s5]
  have fin : ∀ σz s m, ly_C m σ σz s → m ≤ 88 → wk_K (sg_bnd (f_J4_length_8abf5 (sg_e1 177 σz)) (fun r => some (r, σz))) (fun v => v.1 = nb s.1 ∧ ly_C 88 σ v.2 s) := fun σz s m h hm => wk_bnd (qb_len h.2.1) (wk_r ⟨rfl, Nat.le_trans h.1 hm, h.2⟩)
  unfold ly_v
  by_cases c : w (13 + 4 * t) = 0
  · rw [if_pos c]
    refine wk_f (by rw [c]; exact nb_npos) ?_
    exact fin σh _ _ hh (by decide)
  · rw [if_neg c]
    refine wk_t (nb_pos (by omega) (by omega)) ?_
    refine ly_ci 4 hh (by decide) (by omega) (qd_l4 _) (fun σi hi => ?_)
    refine ly_cc (c := 97) hi (by decide) (by decide) (fun σj hj => ?_)
    exact fin σj _ _ hj (by decide)
theorem ly_town2 {τ : sg_S} {w : Nat → Nat} {t : Nat} (hV : nb_V (τ 1) w) (ht : t < 5) (b1 : w (10 + 4 * t) ≤ 60) (b2 : w (11 + 4 * t) ≤ 60) (b3 : w (12 + 4 * t) ≤ 9) (b4 : w (13 + 4 * t) ≤ 160) : wk_K (f_X8_write (nb t) τ) (fun v => v.1 = nb (ly_v w t).1 ∧ ly_M 88 τ v.2 (ly_v w t)) := by
  have rd : ∀ τz s m k, ly_M m τ τz s → k < 79 → τz 1 k = nb (w k) := fun τz s m k h hk => (h.2.2 1 k (by decide) (by omega)).trans (hV k hk)
  unfold f_X8_write
  refine wk_bnd (nb_townE ht).2 (wk_f nb_10 (wk_let (fun τ0 e0 => ?_)))
  have h0 : ly_M 0 τ τ0 ly_0 := by
    rw [e0]
    exact ⟨Nat.le_refl 0, ⟨nb_upE _ _ _ _, fun k hk => absurd hk (Nat.not_lt_zero k)⟩, fun p k h9 h24 => by rw [nb_up, if_neg h24]⟩
  refine ly_mi 1 h0 (by decide) (by omega) (qd_l1 (by omega)) (fun τa ha => ?_)
  refine ly_mc (c := 58) ha (by decide) (fun τb hb => wk_bnd (nb_at0 t) (wk_grd (nb_i79 (by omega)) ?_))
  rw [nb_t79 (by omega), rd τb _ _ _ hb (by omega)]
  refine ly_mi 2 hb (by decide) (by omega) (qd_l2 (by omega)) (fun τc hc => ?_)
  refine ly_mc (c := 115) hc (by decide) (fun τd hd => wk_bnd (nb_at1 t) (wk_grd (nb_i79 (by omega)) ?_))
  rw [nb_t79 (by omega), rd τd _ _ _ hd (by omega)]
  refine ly_mi 2 hd (by decide) (by omega) (qd_l2 (by omega)) (fun τe he => ?_)
  refine ly_mc (c := 114) he (by decide) (fun τf hf => wk_bnd (nb_at2 t) (wk_grd (nb_i79 (by omega)) ?_))
  rw [nb_t79 (by omega), rd τf _ _ _ hf (by omega)]
  refine ly_mi 1 hf (by decide) (by omega) (qd_l1 (by omega)) (fun τg hg => ?_)
  refine ly_mc (c := 117) hg (by decide) (fun τh hh => wk_bnd (nb_at3 t) (wk_grd (nb_i79 (by omega)) ?_))
  rw [nb_t79 (by omega), rd τh _ _ _ hh (by omega)]
  unfold ly_v
  by_cases c : w (13 + 4 * t) = 0
  · rw [if_pos c]
    refine wk_t (by rw [c]; rfl) (wk_r ⟨hh.2.1.1, Nat.le_trans hh.1 (by decide), hh.2⟩)
  · rw [if_neg c]
    refine wk_f (show ¬ nb (w (13 + 4 * t)) = 0 from nb_ne (b := 0) c (by omega) (by decide)) (wk_bnd (nb_at3 t) (wk_grd (nb_i79 (by omega)) ?_))
    rw [nb_t79 (by omega), rd τh _ _ _ hh (by omega)]
    refine ly_mi 4 hh (by decide) (by omega) (qd_l4 _) (fun τi hi => ?_)
    refine ly_mc (c := 97) hi (by decide) (fun τj hj => ?_)
    exact wk_r ⟨hj.2.1.1, Nat.le_trans hj.1 (by decide), hj.2⟩
/-! the credits -/
def lz_1 (w : Nat → Nat) (i : Nat) (s : Nat × (Nat → Nat)) : Nat × (Nat → Nat) := ly_i (w (57 + 3 * i)) (ly_c 64 (ly_i (w (56 + 3 * i)) (ly_c 42 (ly_i (w (55 + 3 * i)) s))))
def lz_s (w : Nat → Nat) : Nat → Nat × (Nat → Nat)
  | 0 => ly_0
  | i + 1 => lz_1 w i (if 0 < i then ly_c 32 (lz_s w i) else lz_s w i)
def lz_K (w : Nat → Nat) : Prop := w 1 ≤ 8 ∧ ∀ c, c < w 1 → w (55 + 3 * c) < 5 ∧ w (56 + 3 * c) ≤ 20 ∧ w (57 + 3 * c) < 10000
theorem lz_j1 {κ : Int32 → sg_S → Option (Int32 × sg_S)} {σ0 σ : sg_S} {w : Nat → Nat} {m i : Nat} {s : Nat × (Nat → Nat)} {R : Int32 × sg_S → Prop} (hR : nb_R (sg_e1 1 σ0) w) (hK : lz_K w) (hi : i < w 1) (h : ly_C m σ0 σ s) (hm : m ≤ 79) (k : ∀ σ2, ly_C (m + 9) σ0 σ2 (lz_1 w i s) → wk_K (κ (nb (i + 1)) σ2) R) : wk_K (f_X7_writeCredits_J38 κ (nb i) σ) R := by
  have h8 := hK.1
  obtain ⟨k1, k2, k3⟩ := hK.2 i hi
  obtain ⟨c1, c2, c3⟩ := hR.2.2 i hi
  have d1 : σ0 10 i = nb (w (55 + 3 * i)) := c1
  have d2 : σ0 11 i = nb (w (56 + 3 * i)) := c2
  have d3 : σ0 12 i = nb (w (57 + 3 * i)) := c3
  unfold f_X7_writeCredits_J38
  refine wk_grd (nb_i8 (by omega)) ?_
  rw [nb_t8 (by omega), show σ 10 i = nb (w (55 + 3 * i)) from (h.2.2 10 i (by decide)).trans d1, nb_succ]
  refine ly_ci 1 h (by omega) (by omega) (qd_l1 (by omega)) (fun σa ha => ?_)
  refine ly_cc (c := 42) ha (by omega) (by decide) (fun σb hb => ?_)
  rw [show σb 11 i = nb (w (56 + 3 * i)) from (hb.2.2 11 i (by decide)).trans d2]
  refine ly_ci 2 hb (by omega) (by omega) (qd_l2 (by omega)) (fun σc hc => ?_)
  refine ly_cc (c := 64) hc (by omega) (by decide) (fun σd hd => ?_)
  rw [show σd 12 i = nb (w (57 + 3 * i)) from (hd.2.2 12 i (by decide)).trans d3]
  exact ly_ci 4 hd (by omega) k3 (qd_l4 _) (fun σe he => k σe he)
theorem lz_j2 {κ : Int32 → sg_S → Option (Int32 × sg_S)} {τ0 τ : sg_S} {w : Nat → Nat} {m i : Nat} {s : Nat × (Nat → Nat)} {R : Int32 × sg_S → Prop} (hV : nb_V (τ0 1) w) (hK : lz_K w) (hi : i < w 1) (h : ly_M m τ0 τ s) (hm : m ≤ 79) (k : ∀ τ2, ly_M (m + 9) τ0 τ2 (lz_1 w i s) → wk_K (κ (nb (i + 1)) τ2) R) : wk_K (f_X8_writeCredits_J27 κ (nb i) τ) R := by
  have h8 := hK.1
  obtain ⟨k1, k2, k3⟩ := hK.2 i hi
  have rd : ∀ τz s m k, ly_M m τ0 τz s → k < 79 → τz 1 k = nb (w k) := fun τz s m k h hk => (h.2.2 1 k (by decide) (by omega)).trans (hV k hk)
  unfold f_X8_writeCredits_J27
  refine wk_bnd (nb_in0 i) (wk_grd (nb_i79 (by omega)) ?_)
  rw [nb_t79 (by omega), rd τ _ _ _ h (by omega), nb_succ]
  refine ly_mi 1 h (by omega) (by omega) (qd_l1 (by omega)) (fun τa ha => ?_)
  refine ly_mc (c := 42) ha (by omega) (fun τb hb => wk_bnd (nb_in1 i) (wk_grd (nb_i79 (by omega)) ?_))
  rw [nb_t79 (by omega), rd τb _ _ _ hb (by omega)]
  refine ly_mi 2 hb (by omega) (by omega) (qd_l2 (by omega)) (fun τc hc => ?_)
  refine ly_mc (c := 64) hc (by omega) (fun τd hd => wk_bnd (nb_in2 i) (wk_grd (nb_i79 (by omega)) ?_))
  rw [nb_t79 (by omega), rd τd _ _ _ hd (by omega)]
  exact ly_mi 4 hd (by omega) k3 (qd_l4 _) (fun τe he => k τe he)
theorem lz_l1 {σ0 : sg_S} {w : Nat → Nat} (hR : nb_R (sg_e1 1 σ0) w) (hK : lz_K w) : ∀ (m i f : Nat) (σ : sg_S), i + m = w 1 → m < f → ly_C (10 * i) σ0 σ (lz_s w i) → wk_K (f_X7_writeCredits_L10 f (nb i) σ) (fun v => v.1 = nb (lz_s w (w 1)).1 ∧ ly_C 88 σ0 v.2 (lz_s w (w 1))) := by
  have h8 := hK.1
  have s9 : σ0 9 0 = nb (w 1) := nb_g8 hR
  intro m
  induction m with
  | zero =>
    intro i f σ h1 h2 h
    obtain ⟨f, rfl⟩ : ∃ k, f = k + 1 := ⟨f - 1, by omega⟩
    have e : i = w 1 := by omega
    subst e
    rw [f_X7_writeCredits_L10, (h.2.2 9 0 (by decide)).trans s9, if_neg (nb_lt_f (by omega) (by omega))]
    exact wk_bnd (qb_len h.2.1) (wk_r ⟨rfl, Nat.le_trans h.1 (by omega), h.2⟩)
  | succ m ih =>
    intro i f σ h1 h2 h
    obtain ⟨f, rfl⟩ : ∃ k, f = k + 1 := ⟨f - 1, by omega⟩
    have go : ∀ σ2 s mm, ly_C mm σ0 σ2 s → mm ≤ 10 * i + 1 → lz_1 w i s = lz_s w (i + 1) → wk_K (f_X7_writeCredits_J38 (fun z1' σz' => f_X7_writeCredits_L10 f z1' σz') (nb i) σ2) (fun v => v.1 = nb (lz_s w (w 1)).1 ∧ ly_C 88 σ0 v.2 (lz_s w (w 1))) := fun σ2 s mm hs hmm e => lz_j1 hR hK (by omega) hs (by omega) (fun σ3 h3 => by
      rw [e] at h3
      exact ih (i + 1) f σ3 (by omega) (by omega) ⟨Nat.le_trans h3.1 (by omega), h3.2⟩)
    rw [f_X7_writeCredits_L10, (h.2.2 9 0 (by decide)).trans s9, if_pos (nb_lt_t (by omega) (by omega))]
    by_cases c : 0 < i
    · refine wk_t (nb_pos c (by omega)) (ly_cc (c := 32) h (by omega) (by decide) (fun σ2 hs => go σ2 _ _ hs (Nat.le_refl _) ?_))
      rw [lz_s, if_pos c]
    · have e : i = 0 := by omega
      subst e
      exact wk_f nb_npos (go σ _ _ h (by omega) rfl)
theorem lz_l2 {τ0 : sg_S} {w : Nat → Nat} (hV : nb_V (τ0 1) w) (hK : lz_K w) : ∀ (m i f : Nat) (τ : sg_S), i + m = w 1 → m < f → ly_M (10 * i) τ0 τ (lz_s w i) → wk_K (f_X8_writeCredits_L7 f (nb i) τ) (fun v => v.1 = nb (lz_s w (w 1)).1 ∧ ly_M 88 τ0 v.2 (lz_s w (w 1))) := by
  have h8 := hK.1
  intro m
  induction m with
  | zero =>
    intro i f τ h1 h2 h
    obtain ⟨f, rfl⟩ : ∃ k, f = k + 1 := ⟨f - 1, by omega⟩
    have e : i = w 1 := by omega
    subst e
    rw [f_X8_writeCredits_L7, (h.2.2 1 1 (by decide) (by omega)).trans (hV 1 (by decide)), if_neg (nb_lt_f (by omega) (by omega))]
    exact wk_r ⟨h.2.1.1, Nat.le_trans h.1 (by omega), h.2⟩
  | succ m ih =>
    intro i f τ h1 h2 h
    obtain ⟨f, rfl⟩ : ∃ k, f = k + 1 := ⟨f - 1, by omega⟩
    have go : ∀ τ2 s mm, ly_M mm τ0 τ2 s → mm ≤ 10 * i + 1 → lz_1 w i s = lz_s w (i + 1) → wk_K (f_X8_writeCredits_J27 (fun z1' σz' => f_X8_writeCredits_L7 f z1' σz') (nb i) τ2) (fun v => v.1 = nb (lz_s w (w 1)).1 ∧ ly_M 88 τ0 v.2 (lz_s w (w 1))) := fun τ2 s mm hs hmm e => lz_j2 hV hK (by omega) hs (by omega) (fun τ3 h3 => by
      rw [e] at h3
      exact ih (i + 1) f τ3 (by omega) (by omega) ⟨Nat.le_trans h3.1 (by omega), h3.2⟩)
    rw [f_X8_writeCredits_L7, (h.2.2 1 1 (by decide) (by omega)).trans (hV 1 (by decide)), if_pos (nb_lt_t (by omega) (by omega))]
    by_cases c : 0 < i
    · refine wk_t (nb_pos c (by omega)) (ly_mc (c := 32) h (by omega) (fun τ2 hs => go τ2 _ _ hs (Nat.le_refl _) ?_))
      rw [lz_s, if_pos c]
    · have e : i = 0 := by omega
      subst e
      exact wk_f nb_npos (go τ _ _ h (by omega) rfl)
/-! line and input, alike in both -/
def gx_L (σ τ : sg_S) : Prop := ∃ n f, n ≤ 88 ∧ qb_I (sg_e1 177 σ) n f ∧ ql_I τ n f
def gx_T (σ τ : sg_S) : Prop := ∃ n f, n ≤ 60 ∧ qb_I (sg_e1 161 σ) n f ∧ τ 0 21 = nb n ∧ (∀ k, k < n → τ 8 k = nb (f k)) ∧ ∀ k, k < n → 32 ≤ f k ∧ f k ≤ 126
def gx_W (σ τ σ2 τ2 : sg_S) : Prop := (∀ p k, p < 177 → σ2 p k = σ p k) ∧ ql_F τ τ2
theorem gl_write {m : Nat} {σ τ : sg_S} (h : gx_A m σ τ) (hL : gx_L σ τ) (x : Int32) : ∃ r σ2 τ2, f_X7_write x σ = some (r, σ2) ∧ f_X8_write x τ = some (r, τ2) ∧ gx_L σ2 τ2 ∧ gx_W σ τ σ2 τ2 := by
  obtain ⟨⟨w, hR, hV, hI⟩, hW, h6, hH, hS, hf⟩ := h
  obtain ⟨j1, j2, j3, j4, j5, j6, j7⟩ := id hI.2
  obtain ⟨n0, f0, hn0, hb, hl⟩ := id hL
  rcases nb_town x with ⟨t, ht, e, t1, t2⟩ | ⟨t1, t2⟩
  · subst e
    obtain ⟨b1, b2, b3, b4⟩ := j3 t ht
    obtain ⟨⟨r, σ2⟩, a1, a2, a3, a4, a5⟩ := ly_town1 hR ht b1 b2 b3 (by omega) hb
    obtain ⟨⟨r2, τ2⟩, c1, c2, c3, c4, c5⟩ := ly_town2 hV ht b1 b2 b3 (by omega)
    have e1 : r = nb (ly_v w t).1 := a2
    have e2 : r2 = nb (ly_v w t).1 := c2
    subst e1
    subst e2
    exact ⟨_, σ2, τ2, a1, c1, ⟨_, _, a3, a4, c4⟩, a5, c5⟩
  · unfold f_X7_write f_X8_write
    rw [t1, t2, nb_bnd, nb_bnd, if_pos rfl, if_pos rfl]
    exact ⟨_, σ, τ, rfl, rfl, hL, fun _ _ _ => rfl, ql_Frf τ⟩
theorem gl_writeCredits {m : Nat} {σ τ : sg_S} (h : gx_A m σ τ) (hm : m < 9900) (hL : gx_L σ τ) : ∃ r σ2 τ2, f_X7_writeCredits σ = some (r, σ2) ∧ f_X8_writeCredits τ = some (r, τ2) ∧ gx_L σ2 τ2 ∧ gx_W σ τ σ2 τ2 := by
  obtain ⟨⟨w, hR, hV, hI⟩, hW, h6, hH, hS, hf⟩ := h
  obtain ⟨j1, j2, j3, j4, j5, j6, j7⟩ := id hI.2
  obtain ⟨n0, f0, hn0, hb, hl⟩ := id hL
  have i0 := hI.1
  have hK : lz_K w := ⟨j1, fun c hc => by
    obtain ⟨k1, k2, k3, k4, k5⟩ := j6 c hc
    exact ⟨k1, k3, by omega⟩⟩
  obtain ⟨κ2, ea, eb⟩ := qb_set hb (fun _ => 0)
  have hC0 : ly_C (10 * 0) σ (sg_m1 177 2 σ κ2) (lz_s w 0) := ly_m1 (s := ly_0) (Nat.le_refl 0) eb (fun _ _ _ => rfl)
  have hM0 : ly_M (10 * 0) τ (sg_up τ 0 24 0) (lz_s w 0) := ⟨Nat.le_refl 0, ⟨nb_upE _ _ _ _, fun k hk => absurd hk (Nat.not_lt_zero k)⟩, fun p k h9 h24 => by rw [nb_up, if_neg h24]⟩
  obtain ⟨⟨r, σ2⟩, a1, a2, a3, a4, a5⟩ := lz_l1 hR hK (w 1) 0 1000 _ (by omega) (by omega) hC0
  obtain ⟨⟨r2, τ2⟩, c1, c2, c3, c4, c5⟩ := lz_l2 hV hK (w 1) 0 1000 _ (by omega) (by omega) hM0
  have e1 : r = nb (lz_s w (w 1)).1 := a2
  have e2 : r2 = nb (lz_s w (w 1)).1 := c2
  subst e1
  subst e2
  refine ⟨nb (lz_s w (w 1)).1, σ2, τ2, ?_, ?_, ⟨_, _, a3, a4, c4⟩, a5, c5⟩
  · unfold f_X7_writeCredits
    rw [ea, nb_bnd, nb_let]
    exact a1
  · unfold f_X8_writeCredits
    rw [nb_let]
    exact c1
theorem gl_written {σ τ : sg_S} (hL : gx_L σ τ) (x : Int32) : ∃ r, f_X7_written x σ = some r ∧ f_X8_written x τ = some r := by
  obtain ⟨n, f, hn, hb, hl0, hl⟩ := hL
  unfold f_X7_written f_X8_written
  rw [hl0, qb_len hb, nb_bnd]
  by_cases h0 : (0 : Int32) ≤ x
  · by_cases h1 : x < nb n
    · obtain ⟨k, hk, e⟩ := nb_of_lt (k := n) (by omega) h0 h1
      subst e
      have e1 : nb n - 1 = nb (n - 1) := nb_sub (b := 1) (by omega)
      have e2 : f_X8_isIn (nb k) 0 (nb (n - 1)) = some 1 := by
        unfold f_X8_isIn
        rw [if_pos h0, if_pos (nb_le_t (by omega) (by omega))]
      rw [if_pos h0, if_pos h1, qb_at hb hk, nb_bnd, e1, e2, nb_bnd, if_neg nb_10, nb_grd (nb_in (by omega) (by decide)), nb_tn (by omega), hl k hk]
      exact ⟨_, rfl, rfl⟩
    · have h2 : ¬ x ≤ nb n - 1 := by
        intro c
        by_cases z : n = 0
        · rw [z] at c
          have c2 : x ≤ -1 := c
          exact absurd (Int32.le_trans h0 c2) (by decide)
        · have e1 : nb n - 1 = nb (n - 1) := nb_sub (b := 1) (by omega)
          rw [e1] at c
          obtain ⟨d, hd, e⟩ := nb_of_le (k := n - 1) (by omega) h0 c
          exact h1 (by rw [e]; exact nb_lt_t (by omega) (by omega))
      have e2 : f_X8_isIn x 0 (nb n - 1) = some 0 := by
        unfold f_X8_isIn
        rw [if_pos h0, if_neg h2]
      rw [if_pos h0, if_neg h1, e2, nb_bnd, if_pos rfl]
      exact ⟨_, rfl, rfl⟩
  · have e2 : f_X8_isIn x 0 (nb n - 1) = some 0 := by
      unfold f_X8_isIn
      rw [if_neg h0]
    rw [if_neg h0, e2, nb_bnd, if_pos rfl]
    exact ⟨_, rfl, rfl⟩
def gx_X (σ τ σ2 τ2 : sg_S) : Prop := (∀ p k, p ≠ 161 → p ≠ 162 → σ2 p k = σ p k) ∧ ∀ p k, p ≠ 8 → ¬ (p = 0 ∧ k = 21) → τ2 p k = τ p k
theorem gl_append {σ τ : sg_S} (hT : gx_T σ τ) (x : Int32) : ∃ r σ2 τ2, f_X7_append x σ = some (r, σ2) ∧ f_X8_append x τ = some (r, τ2) ∧ gx_T σ2 τ2 ∧ gx_X σ τ σ2 τ2 := by
  obtain ⟨n, f, hn, hb, t21, t8, hf⟩ := id hT
  have same : gx_X σ τ σ τ := ⟨fun _ _ _ _ => rfl, fun _ _ _ _ => rfl⟩
  unfold f_X7_append f_X8_append
  rcases nb_isIn x 32 126 (by decide) (by decide) with ⟨c, hc1, hc2, e, z⟩ | ⟨hx, z⟩
  · subst e
    have z2 : f_X8_isIn (nb c) 32 126 = some 1 := z
    rw [if_pos (show (32 : Int32) ≤ nb c from nb_le_t (a := 32) hc1 (by omega)), if_neg (show ¬ (126 : Int32) < nb c from nb_lt_f (a := 126) hc2 (by decide)), qb_len hb, nb_bnd, z2, nb_bnd, if_neg nb_10, t21]
    by_cases d : n = 60
    · subst d
      rw [if_pos (by decide), if_pos (by decide)]
      exact ⟨_, σ, τ, rfl, rfl, hT, same⟩
    · obtain ⟨κ2, a1, a2⟩ := qb_chr (c := c) hb (by omega) (by omega)
      have q2 : qb_I (sg_e1 161 (sg_m1 161 2 σ κ2)) (n + 1) (gw_u f n c) := qb_x a2 (fun p k hp => by
        show sg_m1 161 2 σ κ2 (161 + p) k = κ2 p k
        rw [nb_m1, if_pos (by omega), (by omega : 161 + p - 161 = p)])
      have r0 : sg_up τ 8 n (nb c) 0 21 = nb n := by rw [nb_up, if_neg (by omega), t21]
      rw [if_neg (show ¬ (60 : Int32) ≤ nb n from nb_le_f (a := 60) (by omega) (by decide)), a1, nb_bnd, nb_let, qb_len q2, nb_bnd, if_neg (show ¬ nb n = 60 from nb_ne (b := 60) d (by omega) (by decide)), nb_grd (nb_in (by omega) (by decide)), nb_tn (a := n) (by omega), nb_let, r0, nb_succ, nb_let, nb_upE]
      refine ⟨_, _, _, rfl, rfl, ⟨n + 1, gw_u f n c, by omega, q2, nb_upE _ _ _ _, fun k hk => ?_, fun k hk => ?_⟩, fun p k h1 h2 => ?_, fun p k h8 h0 => ?_⟩
      · rw [nb_up, if_neg (by omega), nb_up]
        by_cases e : (8 : Nat) = 8 ∧ k = n
        · rw [if_pos e, e.2, gw_at]
        · rw [if_neg e, gw_ne _ _ (by omega)]
          exact t8 k (by omega)
      · by_cases e : k = n
        · rw [e, gw_at]
          exact ⟨hc1, hc2⟩
        · rw [gw_ne _ _ e]
          exact hf k (by omega)
      · rw [nb_m1, if_neg (by omega)]
      · rw [nb_up, if_neg h0, nb_up, if_neg (by omega)]
  · have z2 : f_X8_isIn x 32 126 = some 0 := z
    rw [z2, nb_bnd, if_pos rfl]
    refine ⟨-2, σ, τ, ?_, rfl, hT, same⟩
    by_cases d : (32 : Int32) ≤ x
    · rw [if_pos d, if_pos (show (126 : Int32) < x from Int32.not_le.mp (fun d2 => hx ⟨d, d2⟩))]
    · rw [if_neg d]
