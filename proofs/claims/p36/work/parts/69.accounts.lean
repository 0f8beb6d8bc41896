/-! SUMS, ACCOUNTS, REASONS -/
theorem ga_sum {κ : sg_S} {g : Nat → Nat} (h : ∀ t, t < 5 → κ 0 t = nb (g t)) : f_X7_sumOf κ = some (nb (g 0 + g 1 + g 2 + g 3 + g 4)) := by
  refine gt_sum (L := fun n z i => f_X7_sumOf_L10 κ n z 5 i) (g := g) (E := fun z => some (nb z)) (fun n z i hi => ?_) (fun n z => ?_)
  · show f_X7_sumOf_L10 κ (n + 1) (nb z) 5 (nb i) = f_X7_sumOf_L10 κ n (nb (z + g i)) 5 (nb (i + 1))
    rw [f_X7_sumOf_L10, if_pos (nb_lt5 hi), nb_grd (nb_i5 hi), nb_t5 hi, h i hi, nb_let, nb_let, nb_add, nb_succ]
  · show f_X7_sumOf_L10 κ (n + 1) (nb z) 5 (nb 5) = some (nb z)
    rw [f_X7_sumOf_L10, if_neg nb_nlt5]
def ga_s (w : Nat → Nat) (k : Nat) : Nat := w (10 + 4 * 0 + k) + w (10 + 4 * 1 + k) + w (10 + 4 * 2 + k) + w (10 + 4 * 3 + k) + w (10 + 4 * 4 + k)
theorem ga_all {τ : sg_S} {w : Nat → Nat} (hV : nb_V (τ 1) w) {k : Nat} (hk : k < 4) : f_X8_all (nb k) τ = some (nb (ga_s w k)) := by
  refine gt_sum (L := f_X8_all_L4 (nb k) τ) (g := fun t => w (10 + 4 * t + k)) (E := fun z => some (nb z)) (fun n z i hi => ?_) (fun n z => ?_)
  · rw [f_X8_all_L4, if_pos (nb_lt5 hi), nb_at, nb_bnd, nb_grd (nb_i79 (by omega)), nb_t79 (by omega), hV _ (by omega), nb_let, nb_add, nb_succ]
  · rw [f_X8_all_L4, if_neg nb_nlt5]
theorem ga_cls {σ : sg_S} {w : Nat → Nat} (hR : nb_R (sg_e1 1 σ) w) {q p k : Nat} (hq : q = 1 + p) (hp : (p = 1 ∧ k = 0) ∨ (p = 2 ∧ k = 1) ∨ (p = 3 ∧ k = 2) ∨ (p = 4 ∧ k = 3)) : f_X7_sumOf (sg_e1 q σ) = some (nb (ga_s w k)) :=
  ga_sum (g := fun t => w (10 + 4 * t + k)) (fun t ht => gq_rd hR hq (by unfold nb_lk; omega))
theorem ga_owed {m : Nat} {σ : sg_S} {w : Nat → Nat} (hR : nb_R (sg_e1 1 σ) w) (hI : gi_I m w) : f_X7_isOwedAlike σ = some 1 := by
  have hK := gz_K hI.2
  have st : ∀ i n, i < 5 → f_X7_isOwedAlike_L2 σ (n + 1) (nb i) = f_X7_isOwedAlike_L2 σ n (nb (i + 1)) := fun i n hi => by
    rw [f_X7_isOwedAlike_L2, if_pos (nb_lt5 hi), gc_owedBy (κ := sg_e1 9 σ) hR.2 hK hi, nb_bnd, gz_byM hR hI hi, nb_bnd, if_pos rfl, nb_succ]
  have en : f_X7_isOwedAlike_L2 σ 995 (nb 5) = some 1 := by rw [f_X7_isOwedAlike_L2, if_neg nb_nlt5]
  exact (st 0 999 (by decide)).trans ((st 1 998 (by decide)).trans ((st 2 997 (by decide)).trans ((st 3 996 (by decide)).trans ((st 4 995 (by decide)).trans en))))
theorem ga_driz1 {κ2 : Int32 → sg_S → Option (Int32 × sg_S)} {σ : sg_S} {a : Nat → Nat → Bool} (hT : gf_T (sg_e1 6 σ) a) {f : Nat} (hf : f < 5) (h8 : ∀ t, t < 5 → σ 8 t = nb (gf_g a f 20 t)) : f_X7_isDrizzleAlike_L22 κ2 1000 (nb f) 0 σ = κ2 (nb (f + 1)) σ := by
  have st : ∀ i n, i < 5 → f_X7_isDrizzleAlike_L22 κ2 (n + 1) (nb f) (nb i) σ = f_X7_isDrizzleAlike_L22 κ2 n (nb f) (nb (i + 1)) σ := fun i n hi => by
    have e : f_X6_halvedBySteps (nb f) 20 (nb i) (sg_e1 6 σ) = some (nb (gf_g a f 20 i)) := gf_halved hT hf hi (H := 20) (by decide)
    rw [f_X7_isDrizzleAlike_L22, if_pos (nb_lt5 hi), nb_grd (nb_i5 hi), e, nb_bnd, nb_t5 hi, h8 i hi, if_pos rfl, nb_succ]
  have en : f_X7_isDrizzleAlike_L22 κ2 995 (nb f) (nb 5) σ = κ2 (nb (f + 1)) σ := by rw [f_X7_isDrizzleAlike_L22, if_neg nb_nlt5, nb_succ]
  exact (st 0 999 (by decide)).trans ((st 1 998 (by decide)).trans ((st 2 997 (by decide)).trans ((st 3 996 (by decide)).trans ((st 4 995 (by decide)).trans en))))
theorem ga_driz {w : Nat → Nat} (hs : gw_S w) : ∀ (m f n : Nat) (σ : sg_S), f + m = 5 → m < n → nb_R (sg_e1 1 σ) w → w 1 ≤ 8 → ∃ σ2, f_X7_isDrizzleAlike_L2 n (nb f) σ = some (1, σ2) ∧ gx_f1 σ σ2 := by
  intro m
  induction m with
  | zero =>
    intro f n σ h1 h2 hR h8
    obtain ⟨n, rfl⟩ : ∃ k, n = k + 1 := ⟨n - 1, by omega⟩
    have e : f = 5 := by omega
    subst e
    rw [f_X7_isDrizzleAlike_L2, if_neg nb_nlt5]
    exact ⟨σ, rfl, gx_f1r σ⟩
  | succ m ih =>
    intro f n σ h1 h2 hR h8
    obtain ⟨n, rfl⟩ : ∃ k, n = k + 1 := ⟨n - 1, by omega⟩
    have hf : f < 5 := by omega
    have hT := gt_T hR hs
    have e : f_X6_spread (nb f) 20 (sg_e1 6 σ) = some (gf_D (sg_e1 6 σ) (gf_g (gw_a w) f 20)) := gf_spread hT hf (H := 20) (by decide)
    rw [f_X7_isDrizzleAlike_L2, if_pos (nb_lt5 hf), e, nb_bnd, nb_let]
    have f1 : gx_f1 σ (sg_m1 6 3 σ (gf_D (sg_e1 6 σ) (gf_g (gw_a w) f 20))) := gz_f1m (fun p k hp => gf_Sne hp k)
    have g8 : ∀ t, t < 5 → sg_m1 6 3 σ (gf_D (sg_e1 6 σ) (gf_g (gw_a w) f 20)) 8 t = nb (gf_g (gw_a w) f 20 t) := fun t ht => by
      rw [nb_m1, if_pos (by omega)]
      exact gf_Sat ht
    generalize sg_m1 6 3 σ (gf_D (sg_e1 6 σ) (gf_g (gw_a w) f 20)) = σ1 at f1 g8
    have hR1 : nb_R (sg_e1 1 σ1) w := nb_Rx hR h8 (fun _ _ => rfl) (fun p k hp _ h7 => (f1 _ _ (by omega) (by omega)).symm)
    rw [ga_driz1 (gt_T hR1 hs) hf g8]
    obtain ⟨σ2, e2, f2⟩ := ih (f + 1) n σ1 (by omega) (by omega) hR1 h8
    exact ⟨σ2, e2, gx_f1t f1 f2⟩
theorem ga_isCounted {m : Nat} {σ τ : sg_S} (h : gx_A m σ τ) : ∃ r σ2, f_X7_isCounted σ = some (r, σ2) ∧ f_X8_isCounted τ = some r ∧ gx_f1 σ σ2 := by
  obtain ⟨⟨w, hR, hV, hI⟩, hW, h6, hH, hS, hf⟩ := h
  obtain ⟨j1, j2, j3, j4, j5, j6, j7⟩ := id hI.2
  obtain ⟨σ2, e2, f2⟩ := ga_driz j4 5 0 1000 σ (by decide) (by decide) hR j1
  have e2' : f_X7_isDrizzleAlike σ = some (1, σ2) := e2
  have hR2 : nb_R (sg_e1 1 σ2) w := nb_Rx hR j1 (fun _ _ => rfl) (fun p k hp _ h7 => (f2 _ _ (by omega) (by omega)).symm)
  have s1 : f_X7_sumOf (sg_e1 1 (sg_e1 1 σ2)) = some (nb (ga_s w 0)) := ga_sum (g := fun t => w (10 + 4 * t + 0)) (fun t ht => nb_g1 hR2.1 ht)
  have s2 : f_X8_all 0 τ = some (nb (ga_s w 0)) := ga_all hV (by decide)
  have b0 : sg_e1 1 σ2 12 0 = nb (w 2) := nb_gb hR2.1 (by omega)
  have b1 : sg_e1 1 σ2 12 1 = nb (w 3) := nb_gb hR2.1 (by omega)
  have b2 : sg_e1 1 σ2 12 2 = nb (4 * w 9) := hR2.1.2.2
  have b3 : sg_e1 1 σ2 12 3 = nb (w 4) := nb_gb hR2.1 (by omega)
  have c1 : f_X3_isSunCounted (sg_e1 1 σ2) = some (if (50 : Int32) + nb (w 2) = nb (ga_s w 0 + w 3 + 4 * w 9 + w 4) then 1 else 0) := by
    unfold f_X3_isSunCounted
    rw [b0, nb_let, s1, nb_bnd, b1, b2, b3, nb_add, nb_add, nb_add]
    split <;> rfl
  have c2 : f_X8_isCounted τ = some (if (50 : Int32) + nb (w 2) = nb (ga_s w 0 + w 3 + 4 * w 9 + w 4) then 1 else 0) := by
    have e4 : (4 : Int32) * nb (w 9) = nb (4 * w 9) := nb_mul 4 _
    unfold f_X8_isCounted
    rw [s2, nb_bnd, hV 2 (by decide), hV 3 (by decide), hV 4 (by decide), hV 9 (by decide), e4, nb_add, nb_add, nb_add, (by omega : ga_s w 0 + w 3 + w 4 + 4 * w 9 = ga_s w 0 + w 3 + 4 * w 9 + w 4)]
    split <;> rfl
  unfold f_X7_isCounted
  rw [ga_owed hR hI, nb_bnd, if_neg nb_10, e2', nb_bnd2, if_neg nb_10, c1, nb_bnd]
  refine ⟨if (50 : Int32) + nb (w 2) = nb (ga_s w 0 + w 3 + 4 * w 9 + w 4) then 1 else 0, σ2, ?_, c2, f2⟩
  by_cases d : (50 : Int32) + nb (w 2) = nb (ga_s w 0 + w 3 + 4 * w 9 + w 4)
  · rw [if_pos d, if_neg nb_10]
  · rw [if_neg d, if_pos rfl]
theorem ga_account {m : Nat} {σ τ : sg_S} (h : gx_A m σ τ) (ht : σ 161 3 = τ 0 21) (x : Int32) : ∃ r, f_X7_account x σ = some r ∧ f_X8_account x τ = some r := by
  obtain ⟨⟨w, hR, hV, hI⟩, hW, h6, hH, hS, hf⟩ := h
  obtain ⟨j1, j2, j3, j4, j5, j6, j7⟩ := id hI.2
  have hT := gt_T hR j4
  have b : ∀ k j, ((k = 0 ∧ j = 2) ∨ (k = 1 ∧ j = 3) ∨ (3 ≤ k ∧ k < 8 ∧ j = k + 1)) → sg_e1 13 σ 0 k = nb (w j) := fun k j hk => nb_gb hR.1 hk
  unfold f_X7_account f_X8_account
  by_cases c0 : x = 0
  · subst c0
    rw [if_pos rfl, if_pos rfl, nb_grd (by decide), show (0 : Int32).toNatClampNeg = 0 by decide, hV 0 (by decide)]
    exact ⟨_, rfl, by rw [show σ 1 0 = nb (w 0) from nb_g0 hR.1]⟩
  rw [if_neg c0, if_neg c0]
  by_cases c1 : x = 1
  · subst c1
    rw [if_pos rfl, if_pos rfl, nb_grd (by decide), show (1 : Int32).toNatClampNeg = 1 by decide, hV 1 (by decide)]
    exact ⟨_, rfl, by rw [show σ 9 0 = nb (w 1) from nb_g8 hR]⟩
  rw [if_neg c1, if_neg c1]
  by_cases c2 : x = 2
  · rw [if_pos c2, if_pos c2, gt_all1 hT, nb_bnd, gt_all2 hV j4, nb_bnd]
    exact ⟨_, rfl, rfl⟩
  rw [if_neg c2, if_neg c2]
  by_cases c3 : x = 3
  · rw [if_pos c3, if_pos c3, show f_X7_sumOf (sg_e1 2 σ) = some (nb (ga_s w 0)) from ga_cls (p := 1) hR rfl (by omega), nb_bnd, show f_X8_all 0 τ = some (nb (ga_s w 0)) from ga_all hV (by decide), nb_bnd]
    exact ⟨_, rfl, rfl⟩
  rw [if_neg c3, if_neg c3]
  by_cases c4 : x = 4
  · rw [if_pos c4, if_pos c4, show f_X7_sumOf (sg_e1 3 σ) = some (nb (ga_s w 1)) from ga_cls (p := 2) hR rfl (by omega), nb_bnd, show f_X8_all 1 τ = some (nb (ga_s w 1)) from ga_all hV (by decide), nb_bnd]
    exact ⟨_, rfl, rfl⟩
  rw [if_neg c4, if_neg c4]
  by_cases c5 : x = 5
  · rw [if_pos c5, if_pos c5, show f_X7_sumOf (sg_e1 5 σ) = some (nb (ga_s w 3)) from ga_cls (p := 4) hR rfl (by omega), nb_bnd, show f_X8_all 3 τ = some (nb (ga_s w 3)) from ga_all hV (by decide), nb_bnd]
    exact ⟨_, rfl, rfl⟩
  rw [if_neg c5, if_neg c5]
  by_cases c6 : x = 6
  · rw [if_pos c6, if_pos c6, show f_X7_sumOf (sg_e1 4 σ) = some (nb (ga_s w 2)) from ga_cls (p := 3) hR rfl (by omega), nb_bnd, show f_X8_all 2 τ = some (nb (ga_s w 2)) from ga_all hV (by decide), nb_bnd]
    exact ⟨_, rfl, rfl⟩
  rw [if_neg c6, if_neg c6]
  by_cases c7 : x = 7
  · subst c7
    have e : f_X0_entryOf 7 (sg_e1 13 σ) = some (sg_e1 13 σ 0 0) := by
      unfold f_X0_entryOf
      rw [if_pos rfl]
    rw [if_pos rfl, if_pos rfl, e, nb_bnd, nb_grd (by decide), show ((7 : Int32) - 5).toNatClampNeg = 2 by decide, hV 2 (by decide), b 0 2 (by omega)]
    exact ⟨_, rfl, rfl⟩
  rw [if_neg c7, if_neg c7]
  by_cases c8 : x = 8
  · subst c8
    have e : f_X0_entryOf 8 (sg_e1 13 σ) = some (sg_e1 13 σ 0 1) := by
      unfold f_X0_entryOf
      rw [if_neg (by decide), if_pos rfl]
    rw [if_pos rfl, if_pos rfl, e, nb_bnd, nb_grd (by decide), show ((8 : Int32) - 5).toNatClampNeg = 3 by decide, hV 3 (by decide), b 1 3 (by omega)]
    exact ⟨_, rfl, rfl⟩
  rw [if_neg c8, if_neg c8]
  by_cases c9 : x = 9
  · subst c9
    have e : f_X0_entryOf 9 (sg_e1 13 σ) = some (sg_e1 13 σ 0 3) := by
      unfold f_X0_entryOf
      rw [if_neg (by decide), if_neg (by decide), if_pos rfl]
    rw [if_pos rfl, if_pos rfl, e, nb_bnd, nb_grd (by decide), show ((9 : Int32) - 5).toNatClampNeg = 4 by decide, hV 4 (by decide), b 3 4 (by omega)]
    exact ⟨_, rfl, rfl⟩
  rw [if_neg c9, if_neg c9]
  by_cases c10 : x = 10
  · subst c10
    have e : f_X0_entryOf 10 (sg_e1 13 σ) = some (sg_e1 13 σ 0 4) := by
      unfold f_X0_entryOf
      rw [if_neg (by decide), if_neg (by decide), if_neg (by decide), if_pos rfl]
    rw [if_pos rfl, if_pos rfl, e, nb_bnd, nb_grd (by decide), show ((10 : Int32) - 5).toNatClampNeg = 5 by decide, hV 5 (by decide), b 4 5 (by omega)]
    exact ⟨_, rfl, rfl⟩
  rw [if_neg c10, if_neg c10]
  by_cases c11 : x = 11
  · subst c11
    have e : f_X0_entryOf 11 (sg_e1 13 σ) = some (sg_e1 13 σ 0 5) := by
      unfold f_X0_entryOf
      rw [if_neg (by decide), if_neg (by decide), if_neg (by decide), if_neg (by decide), if_pos rfl]
    rw [if_pos rfl, if_pos rfl, e, nb_bnd, nb_grd (by decide), show ((11 : Int32) - 5).toNatClampNeg = 6 by decide, hV 6 (by decide), b 5 6 (by omega)]
    exact ⟨_, rfl, rfl⟩
  rw [if_neg c11, if_neg c11]
  by_cases c12 : x = 12
  · subst c12
    have e : f_X0_entryOf 12 (sg_e1 13 σ) = some (sg_e1 13 σ 0 6) := by
      unfold f_X0_entryOf
      rw [if_neg (by decide), if_neg (by decide), if_neg (by decide), if_neg (by decide), if_neg (by decide), if_pos rfl]
    rw [if_pos rfl, if_pos rfl, e, nb_bnd, nb_grd (by decide), show ((12 : Int32) - 5).toNatClampNeg = 7 by decide, hV 7 (by decide), b 6 7 (by omega)]
    exact ⟨_, rfl, rfl⟩
  rw [if_neg c12, if_neg c12]
  by_cases c13 : x = 13
  · subst c13
    have e : f_X0_entryOf 13 (sg_e1 13 σ) = some (sg_e1 13 σ 0 7) := by
      unfold f_X0_entryOf
      rw [if_neg (by decide), if_neg (by decide), if_neg (by decide), if_neg (by decide), if_neg (by decide), if_neg (by decide), if_pos rfl]
    rw [if_pos rfl, if_pos rfl, e, nb_bnd, nb_grd (by decide), show ((13 : Int32) - 5).toNatClampNeg = 8 by decide, hV 8 (by decide), b 7 8 (by omega)]
    exact ⟨_, rfl, rfl⟩
  rw [if_neg c13, if_neg c13]
  by_cases c14 : x = 14
  · rw [if_pos c14, if_pos c14]
    exact ⟨_, rfl, by rw [← ht]⟩
  rw [if_neg c14, if_neg c14]
  by_cases c15 : x = 15
  · obtain ⟨c, s, a1, a2, a3, a4, a5, a6⟩ := hH
    rw [if_pos c15, if_pos c15]
    exact ⟨_, rfl, by rw [a5, show σ 54 0 = nb c from a3]⟩
  rw [if_neg c15, if_neg c15]
  unfold f_X0_entryOf
  rw [if_neg c7, if_neg c8, if_neg c9, if_neg c10, if_neg c11, if_neg c12, if_neg c13, nb_bnd]
  exact ⟨_, rfl, rfl⟩
theorem ga_fault {m : Nat} {σ τ : sg_S} (h : gx_A m σ τ) : ∃ r, f_X7_fault σ = some r ∧ f_X8_fault τ = some r := by
  refine ⟨_, rfl, ?_⟩
  unfold f_X8_fault
  rw [h.2.2.2.2.2]
  split <;> rfl
theorem ga_reason {m : Nat} {σ τ : sg_S} (h : gx_A m σ τ) (x y : Int32) : ∃ r, f_X7_reason x y σ = some r ∧ f_X8_reason x y τ = some r := by
  obtain ⟨_, ⟨w1, w2, w3, w4⟩, _⟩ := h
  unfold f_X7_reason f_X8_reason
  rw [w1, w2, w3]
  rcases nb_isIn x 0 1 (by decide) (by decide) with ⟨k, hk0, hk, e, z⟩ | ⟨hn, z⟩
  · have z2 : f_X8_isIn x 0 1 = some 1 := z
    subst e
    rw [if_pos (nb_0le (by omega)), if_neg (show ¬ (1 : Int32) < nb k from nb_lt_f (a := 1) hk (by decide)), z2, nb_bnd, if_neg nb_10]
    by_cases c : τ 0 2 = 0
    · rw [if_pos c, if_pos c]
      exact ⟨_, rfl, rfl⟩
    · rw [if_neg c, if_neg c]
      by_cases d : nb k = 0
      · rw [if_pos d, if_pos d]
        exact ⟨if y = 0 then τ 0 2 else τ 0 3, by split <;> rfl, by split <;> rfl⟩
      · rw [if_neg d, if_neg d]
        by_cases e : τ 0 4 = 0
        · rw [if_pos e, if_pos e]
          exact ⟨_, rfl, rfl⟩
        · rw [if_neg e, if_neg e, w4 e]
          exact ⟨if y = 0 then τ 0 4 else τ 0 5, by split <;> rfl, by split <;> rfl⟩
  · have z2 : f_X8_isIn x 0 1 = some 0 := z
    rw [z2, nb_bnd, if_pos rfl]
    refine ⟨-2, ?_, rfl⟩
    by_cases d : (0 : Int32) ≤ x
    · rw [if_pos d, if_pos (show (1 : Int32) < x from Int32.not_le.mp (fun d2 => hn ⟨d, d2⟩))]
    · rw [if_neg d]
