/-! Sums over the five towns -/
theorem gt_sum {β : Type} {L : Nat → Int32 → Int32 → Option β} {g : Nat → Nat} {E : Nat → Option β} (st : ∀ n z i, i < 5 → L (n + 1) (nb z) (nb i) = L n (nb (z + g i)) (nb (i + 1))) (en : ∀ n z, L (n + 1) (nb z) (nb 5) = E z) : L 1000 0 0 = E (g 0 + g 1 + g 2 + g 3 + g 4) := by
  have h := (st 999 0 0 (by decide)).trans ((st 998 (0 + g 0) 1 (by decide)).trans ((st 997 (0 + g 0 + g 1) 2 (by decide)).trans ((st 996 (0 + g 0 + g 1 + g 2) 3 (by decide)).trans ((st 995 (0 + g 0 + g 1 + g 2 + g 3) 4 (by decide)).trans (en 994 (0 + g 0 + g 1 + g 2 + g 3 + g 4))))))
  rw [Nat.zero_add] at h
  exact h
/-! Treaties -/
theorem gt_xors : ∀ b0 b1 b2 b3 b4 c0 c1 c2 c3 c4 : Bool, nb (b0.toNat + 2 * b1.toNat + 4 * b2.toNat + 8 * b3.toNat + 16 * b4.toNat) ^^^ nb (c0.toNat + 2 * c1.toNat + 4 * c2.toNat + 8 * c3.toNat + 16 * c4.toNat) = nb ((xor b0 c0).toNat + 2 * (xor b1 c1).toNat + 4 * (xor b2 c2).toNat + 8 * (xor b3 c3).toNat + 16 * (xor b4 c4).toNat) := by decide +kernel
theorem gt_xor (p q : Nat → Bool) : nb (gf_m p) ^^^ nb (gf_m q) = nb (gf_m (fun v => xor (p v) (q v))) := gt_xors (p 0) (p 1) (p 2) (p 3) (p 4) (q 0) (q 1) (q 2) (q 3) (q 4)
theorem gt_T {σ : sg_S} {w : Nat → Nat} (hR : nb_R (sg_e1 1 σ) w) (hs : gw_S w) : gf_T (sg_e1 6 σ) (gw_a w) := fun t ht => gr_T hR.1 hs t ht
theorem gt_btw {κ : sg_S} {a : Nat → Nat → Bool} (hT : gf_T κ a) {i j : Nat} (hi : i < 5) (hj : j < 5) : f_X6_isBetween (nb i) (nb j) κ = some (nb (a i j).toNat) := by
  unfold f_X6_isBetween
  rw [(nb_townE hi).1, nb_bnd, if_neg nb_10, (nb_townE hj).1, nb_bnd, if_neg nb_10, nb_grd (nb_i5 hi), nb_t5 hi, hT i hi]
  cases h : a i j with
  | true =>
    rw [if_pos ((gf_bit hj).mpr h)]
    try rfl
  | false =>
    rw [if_neg (fun c => by rw [(gf_bit hj).mp c] at h; cases h)]
    try rfl
def gt_c (w : Nat → Nat) (t : Nat) : Nat := gf_c (gw_a w t)
def gt_n (w : Nat → Nat) : Nat := gt_c w 0 + gt_c w 1 + gt_c w 2 + gt_c w 3 + gt_c w 4
theorem gt_cle (p : Nat → Bool) : gf_c p ≤ 5 := by
  unfold gf_c
  cases p 0 <;> cases p 1 <;> cases p 2 <;> cases p 3 <;> cases p 4 <;> decide
theorem gt_nle (w : Nat → Nat) : gt_n w ≤ 25 := by
  unfold gt_n gt_c
  have a0 := gt_cle (gw_a w 0)
  have a1 := gt_cle (gw_a w 1)
  have a2 := gt_cle (gw_a w 2)
  have a3 := gt_cle (gw_a w 3)
  have a4 := gt_cle (gw_a w 4)
  omega
theorem gt_part {κ : sg_S} {a : Nat → Nat → Bool} (hT : gf_T κ a) {t : Nat} (ht : t < 5) : f_X6_partnersOf (nb t) κ = some (nb (gf_c (a t))) := by
  unfold f_X6_partnersOf
  rw [(nb_townE ht).1, nb_bnd, if_neg nb_10, nb_grd (nb_i5 ht), nb_t5 ht, hT t ht, gf_cnt, nb_bnd]
theorem gt_half {z : Nat} (hz : z < 2147483648) : nb z / 2 = nb (z / 2) := nb_div (b := 2) hz (by decide)
theorem gt_all1 {κ : sg_S} {w : Nat → Nat} (hT : gf_T κ (gw_a w)) : f_X6_countAll κ = some (nb (gt_n w / 2)) := by
  have h := gt_sum (L := f_X6_countAll_L4 κ) (g := gt_c w) (E := fun z => some (nb z / 2)) (fun n z i hi => by
    rw [f_X6_countAll_L4, if_pos (nb_lt5 hi), gt_part hT hi, nb_bnd, nb_let, nb_add, nb_succ]
    try rfl) (fun n z => by rw [f_X6_countAll_L4, if_neg nb_nlt5])
  exact h.trans (congrArg some (gt_half (z := gt_n w) (by have := gt_nle w; omega)))
theorem gt_ct {τ : sg_S} {w : Nat → Nat} (hV : nb_V (τ 1) w) (hs : gw_S w) {t : Nat} (ht : t < 5) : f_X8_treaties (nb t) τ = some (nb (gt_c w t)) := by
  have h := gt_sum (L := f_X8_treaties_L4 (nb t) τ) (g := fun u => w (30 + 5 * t + u)) (E := fun z => some (nb z)) (fun n z i hi => by
    rw [f_X8_treaties_L4, if_pos (nb_lt5 hi), nb_tr, nb_grd (nb_i79 (by omega)), nb_t79 (by omega), hV _ (by omega), nb_let, nb_add, nb_succ]) (fun n z => by rw [f_X8_treaties_L4, if_neg nb_nlt5])
  refine h.trans (congrArg some (congrArg nb ?_))
  unfold gt_c gf_c gw_a
  rw [gr_bit (hs t 0 ht (by decide)).1, gr_bit (hs t 1 ht (by decide)).1, gr_bit (hs t 2 ht (by decide)).1, gr_bit (hs t 3 ht (by decide)).1, gr_bit (hs t 4 ht (by decide)).1]
theorem gt_all2 {τ : sg_S} {w : Nat → Nat} (hV : nb_V (τ 1) w) (hs : gw_S w) : f_X8_allTreaties τ = some (nb (gt_n w / 2)) := by
  have h := gt_sum (L := f_X8_allTreaties_L4 τ) (g := gt_c w) (E := fun z => some (nb z / 2)) (fun n z i hi => by
    rw [f_X8_allTreaties_L4, if_pos (nb_lt5 hi), gt_ct hV hs hi, nb_bnd, nb_let, nb_add, nb_succ]
    try rfl) (fun n z => by rw [f_X8_allTreaties_L4, if_neg nb_nlt5])
  exact h.trans (congrArg some (gt_half (z := gt_n w) (by have := gt_nle w; omega)))
/-- a treaty made or ended -/
def gt_w (w : Nat → Nat) (a b i : Nat) : Nat → Nat := gw_u (gw_u w (30 + 5 * a + b) i) (30 + 5 * b + a) i
theorem gt_at {w : Nat → Nat} {a b i t u : Nat} (ha : a < 5) (hb : b < 5) (ht : t < 5) (hu : u < 5) : gt_w w a b i (30 + 5 * t + u) = if (t = a ∧ u = b) ∨ (t = b ∧ u = a) then i else w (30 + 5 * t + u) := by
  unfold gt_w gw_u
  by_cases c : 30 + 5 * t + u = 30 + 5 * b + a
  · rw [if_pos c, if_pos (by omega)]
  · rw [if_neg c]
    by_cases d : 30 + 5 * t + u = 30 + 5 * a + b
    · rw [if_pos d, if_pos (by omega)]
    · rw [if_neg d, if_neg (by omega)]
theorem gt_ne {w : Nat → Nat} {a b i x : Nat} (ha : a < 5) (hb : b < 5) (hx : x < 30 ∨ 55 ≤ x) : gt_w w a b i x = w x := by
  unfold gt_w
  rw [gw_ne _ _ (by omega), gw_ne _ _ (by omega)]
theorem gt_S {w : Nat → Nat} (hs : gw_S w) {a b i : Nat} (ha : a < 5) (hb : b < 5) (hi : i ≤ 1) : gw_S (gt_w w a b i) := by
  intro t u ht hu
  rw [gt_at ha hb ht hu, gt_at ha hb hu ht]
  by_cases c : (t = a ∧ u = b) ∨ (t = b ∧ u = a)
  · rw [if_pos c, if_pos (by omega)]
    exact ⟨hi, rfl⟩
  · rw [if_neg c, if_neg (by omega)]
    exact hs t u ht hu
theorem gt_J {w : Nat → Nat} {k : Nat} (h : gs_J w k) {a b i : Nat} (ha : a < 5) (hb : b < 5) (hab : a ≠ b) (hi : i ≤ 1) : gs_J (gt_w w a b i) k := by
  obtain ⟨j1, j2, j3, j4, j5, j6, j7⟩ := h
  have e0 : gt_w w a b i 0 = w 0 := gt_ne ha hb (by omega)
  have e1 : gt_w w a b i 1 = w 1 := gt_ne ha hb (by omega)
  refine ⟨by omega, by omega, fun t ht => ?_, gt_S j4 ha hb hi, fun t ht => ?_, fun c hc => ?_, fun c hc => ?_⟩
  · rw [gt_ne ha hb (by omega), gt_ne ha hb (by omega), gt_ne ha hb (by omega), gt_ne ha hb (by omega), gn_by e1 (fun x h => gt_ne ha hb (by omega))]
    exact j3 t ht
  · have e : 30 + 6 * t = 30 + 5 * t + t := by omega
    rw [e, gt_at ha hb ht ht, if_neg (by omega), ← e]
    exact j5 t ht
  · rw [e1] at hc
    rw [e0, gt_ne ha hb (by omega), gt_ne ha hb (by omega), gt_ne ha hb (by omega)]
    exact j6 c hc
  · rw [gt_ne ha hb (by omega), e0]
    exact j7 c hc
theorem gt_turn {κ : sg_S} {w : Nat → Nat} (hT : gf_T κ (gw_a w)) (hs : gw_S w) {a b i : Nat} (ha : a < 5) (hb : b < 5) (hab : a ≠ b) (hi : i ≤ 1) (hn : w (30 + 5 * a + b) ≠ i) : ∃ κ2, f_X6_turn (nb a) (nb b) κ = some κ2 ∧ gf_T κ2 (gw_a (gt_w w a b i)) ∧ ∀ p k, p ≠ 1 → κ2 p k = κ p k := by
  unfold f_X6_turn
  rw [(nb_townE ha).1, nb_bnd, if_neg nb_10, (nb_townE hb).1, nb_bnd, if_neg nb_10, nb_grd (nb_i5 ha), nb_t5 ha, nb_let, nb_grd (nb_i5 hb), nb_t5 hb, nb_let]
  refine ⟨_, rfl, fun t ht => ?_, fun p k hp => ?_⟩
  · have s1 := hs a b ha hb
    have s2 := hs b a hb ha
    rw [nb_up, nb_up, nb_up]
    by_cases c : t = b
    · subst c
      rw [if_pos ⟨rfl, rfl⟩, if_neg (by omega), hT t ht, gf_one ha, gt_xor]
      refine congrArg nb (gf_mc (fun u hu => ?_))
      show xor (gw_a w t u) (Nat.beq u a) = gw_a (gt_w w a t i) t u
      unfold gw_a
      rw [gt_at ha hb hb hu]
      by_cases d : u = a
      · subst d
        rw [if_pos (Or.inr ⟨rfl, rfl⟩), Nat.beq_refl]
        by_cases f : w (30 + 5 * t + u) = 1
        · rw [decide_eq_true f, decide_eq_false (show ¬ i = 1 by omega)]
          try rfl
        · rw [decide_eq_false f, decide_eq_true (show i = 1 by omega)]
          try rfl
      · rw [if_neg (by omega), nb_beq d, Bool.xor_false]
    · rw [if_neg (by omega)]
      by_cases c2 : t = a
      · subst c2
        rw [if_pos ⟨rfl, rfl⟩, hT t ht, gf_one hb, gt_xor]
        refine congrArg nb (gf_mc (fun u hu => ?_))
        show xor (gw_a w t u) (Nat.beq u b) = gw_a (gt_w w t b i) t u
        unfold gw_a
        rw [gt_at ha hb ha hu]
        by_cases d : u = b
        · subst d
          rw [if_pos (Or.inl ⟨rfl, rfl⟩), Nat.beq_refl]
          by_cases f : w (30 + 5 * t + u) = 1
          · rw [decide_eq_true f, decide_eq_false (show ¬ i = 1 by omega)]
            try rfl
          · rw [decide_eq_false f, decide_eq_true (show i = 1 by omega)]
            try rfl
        · rw [if_neg (by omega), nb_beq d, Bool.xor_false]
      · rw [if_neg (by omega), hT t ht]
        refine congrArg nb (gf_mc (fun u hu => ?_))
        unfold gw_a
        rw [gt_at ha hb ht hu, if_neg (by omega)]
  · rw [nb_up, if_neg (by omega), nb_up, if_neg (by omega)]
theorem gt_treat1 {w : Nat → Nat} {σ : sg_S} {a b i : Nat} (hR : nb_R (sg_e1 1 σ) w) (h8 : w 1 ≤ 8) (hs : gw_S w) (ha : a < 5) (hb : b < 5) (hab : a ≠ b) (hi : i ≤ 1) (hn : w (30 + 5 * a + b) ≠ i) : wk_K (f_X7_agree (nb a) (nb b) (nb i) σ) (gq_S1 (gt_w w a b i) σ (gt_n (gt_w w a b i) / 2)) := by
  have hT := gt_T hR hs
  have s1 := hs a b ha hb
  unfold f_X7_agree
  refine wk_bnd (nb_townE ha).1 (wk_f nb_10 (wk_bnd (nb_townE hb).1 (wk_f nb_10 (wk_f (nb_ne hab (by omega) (by omega)) (wk_bnd (gt_btw hT ha hb) (wk_f ?_ ?_))))))
  · unfold gw_a
    by_cases f : w (30 + 5 * a + b) = 1
    · rw [decide_eq_true f]
      exact nb_ne (a := 1) (by omega) (by decide) (by omega)
    · rw [decide_eq_false f]
      exact nb_ne (a := 0) (by omega) (by decide) (by omega)
  · obtain ⟨κ2, e1, e2, e3⟩ := gt_turn hT hs ha hb hab hi hn
    refine wk_bnd e1 (wk_let (fun σ9 e9 => ?_))
    have h9 : ∀ q k, q < 3 → σ9 (6 + q) k = κ2 q k := fun q k hq => by
      rw [e9, nb_m1, if_pos (by omega), (by omega : 6 + q - 6 = q)]
    have h9b : ∀ q k, q ≠ 7 → σ9 q k = σ q k := fun q k hq => by
      rw [e9, nb_m1]
      by_cases c : 6 ≤ q ∧ q < 6 + 3
      · rw [if_pos c, e3 (q - 6) k (by omega)]
        show σ (6 + (q - 6)) k = _
        rw [(by omega : 6 + (q - 6) = q)]
      · rw [if_neg c]
    have T9 : gf_T (sg_e1 6 σ9) (gw_a (gt_w w a b i)) := fun t ht => (h9 1 t (by decide)).trans (e2 t ht)
    refine wk_bnd (gt_all1 T9) (wk_r ⟨rfl, ⟨⟨fun p k j hl => ?_, fun t ht => ?_, ?_⟩, nb_Cx hR.2 h8 (fun k _ hk => (gt_ne ha hb (by omega)).symm) (fun p k hp => ?_)⟩, fun p hp => ?_⟩)
    · have hb2 := nb_lkb hl
      show σ9 (1 + p) k = _
      rw [h9b _ _ (by unfold nb_lk at hl; omega), gt_ne ha hb (by omega)]
      exact hR.1.1 p k j hl
    · rw [gr_mask (gt_S hs ha hb hi) ht]
      exact T9 t ht
    · show σ9 13 2 = _
      rw [h9b _ _ (by omega), gt_ne ha hb (by omega)]
      exact hR.1.2.2
    · show σ (1 + (8 + p)) k = σ9 (1 + (8 + p)) k
      rw [h9b _ _ (by omega)]
    · funext k
      exact h9b p k (by omega)
theorem gt_treat2 {w : Nat → Nat} {τ : sg_S} {a b i : Nat} (hV : nb_V (τ 1) w) (hs : gw_S w) (ha : a < 5) (hb : b < 5) (hab : a ≠ b) (hi : i ≤ 1) (hn : w (30 + 5 * a + b) ≠ i) : wk_K (f_X8_treats (nb a) (nb b) (nb i) τ) (gq_S2 (gt_w w a b i) τ (gt_n (gt_w w a b i) / 2)) := by
  have s1 := hs a b ha hb
  unfold f_X8_treats
  refine wk_bnd (nb_townE ha).2 (wk_f nb_10 (wk_bnd (nb_townE hb).2 (wk_f nb_10 (wk_f (nb_ne hab (by omega) (by omega)) ?_))))
  rw [nb_tr, nb_t79 (by omega), hV _ (by omega), nb_tr, nb_t79 (i := 30 + 5 * b + a) (by omega)]
  refine wk_grd (nb_i79 (by omega)) (wk_f (nb_ne hn (by omega) (by omega)) (wk_let (fun σ4 e4 => (wk_grd (nb_i79 (by omega)) (wk_let (fun σ5 e5 => ?_))))))
  have V5 : nb_V (σ5 1) (gt_w w a b i) := by
    rw [e5, e4]
    exact nb_Vu (nb_Vu hV _ _) _ _
  refine wk_bnd (gt_all2 V5 (gt_S hs ha hb hi)) (wk_r ⟨rfl, V5, ?_⟩)
  rw [e5, e4]
  exact nb_Ftr (nb_Fu _ _ _) (nb_Fu _ _ _)
theorem gq_treat {m : Nat} {w : Nat → Nat} {σ τ : sg_S} (h : gq_H m w σ τ) (x y : Int32) {i : Nat} (hi : i ≤ 1) : gq_A m w σ τ (f_X7_agree x y (nb i) σ) (f_X8_treats x y (nb i) τ) := by
  have h0 := h
  obtain ⟨hR, hV, hI, hW, hz, hm, h6⟩ := h
  rcases nb_town x with ⟨a, ha, e, t1, t2⟩ | ⟨t1, t2⟩
  · subst e
    rcases nb_town y with ⟨b, hb, e, u1, u2⟩ | ⟨u1, u2⟩
    · subst e
      obtain ⟨j1, j2, j3, j4, j5, j6, j7⟩ := hI.2
      by_cases c : a = b
      · subst c
        refine gq_Ae ?_ ?_ (gq_ref h0 8 (nb a) (by decide))
        · unfold f_X7_agree
          rw [t1, nb_bnd, if_neg nb_10, nb_bnd, if_neg nb_10, if_pos rfl]
        · unfold f_X8_treats
          rw [t2, nb_bnd, if_neg nb_10, nb_bnd, if_neg nb_10, if_pos rfl]
      · have ec := nb_ne c (by omega) (by omega)
        have s1 := j4 a b ha hb
        by_cases d : w (30 + 5 * a + b) = i
        · refine gq_Ae ?_ ?_ (gq_ref h0 7 (nb i) (by decide))
          · unfold f_X7_agree
            rw [t1, nb_bnd, if_neg nb_10, u1, nb_bnd, if_neg nb_10, if_neg ec, gt_btw (gt_T hR j4) ha hb, nb_bnd]
            unfold gw_a
            rw [gr_bit s1.1, d, if_pos rfl]
            rcases (by omega : i = 0 ∨ i = 1) with rfl | rfl
            · rw [if_pos (show nb 0 = 0 from rfl)]
              try rfl
            · rw [if_neg (show ¬ nb 1 = 0 from nb_10)]
              try rfl
          · unfold f_X8_treats
            rw [t2, nb_bnd, if_neg nb_10, u2, nb_bnd, if_neg nb_10, if_neg ec, nb_tr, nb_grd (nb_i79 (by omega)), nb_t79 (by omega), hV _ (by omega), d, if_pos rfl]
        · have l2 := gt_nle (gt_w w a b i)
          refine gq_fin h0 (n := gt_n (gt_w w a b i) / 2) (by omega) (gt_treat1 hR j1 j4 ha hb c hi d) (gt_treat2 hV j4 ha hb c hi d) ⟨?_, ?_⟩
          · refine ⟨?_, ge_same hI.1.2 (Nat.le_succ m) (fun x _ _ => gt_ne ha hb (by omega)) (fun q _ => gt_ne ha hb (by omega))⟩
            rw [gt_ne ha hb (by omega)]
            exact Nat.le_succ_of_le hI.1.1
          · rw [gt_ne ha hb (by omega)]
            exact gt_J hI.2 ha hb c hi
    · refine gq_Ae ?_ ?_ (gq_bad h0 (r := -1) (Or.inl rfl))
      · unfold f_X7_agree
        rw [t1, nb_bnd, if_neg nb_10, u1, nb_bnd, if_pos rfl]
      · unfold f_X8_treats
        rw [t2, nb_bnd, if_neg nb_10, u2, nb_bnd, if_pos rfl]
  · refine gq_Ae ?_ ?_ (gq_bad h0 (r := -1) (Or.inl rfl))
    · unfold f_X7_agree
      rw [t1, nb_bnd, if_pos rfl]
    · unfold f_X8_treats
      rw [t2, nb_bnd, if_pos rfl]
