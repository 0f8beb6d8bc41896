/-! A GROWING ROW OF CHARACTERS: the class's builder -/
def qb_R (κ : sg_S) (r : Nat) : Prop := r ≤ 200 ∧ κ 0 0 = nb r ∧ κ 0 1 = 0 ∧ ∀ i, i < r → ∃ b, b ≤ 127 ∧ κ 1 i = nb b
def qb_I (κ : sg_S) (n : Nat) (f : Nat → Nat) : Prop := ∃ r, qb_R κ r ∧ n ≤ r ∧ κ 0 3 = nb n ∧ ∀ i, i < n → f i ≤ 127 ∧ κ 1 i = nb (f i)
theorem qb_sr : ∀ r, r < 201 → nb r >>> ((0 : Int32) &&& 31) = nb r ∧ nb r <<< ((0 : Int32) &&& 31) = nb r := by decide +kernel
theorem qb_len {κ : sg_S} {n : Nat} {f : Nat → Nat} (h : qb_I κ n f) : f_J4_length_8abf5 κ = some (nb n) := by
  obtain ⟨r, _, _, h3, _⟩ := h
  show some (κ 0 3) = _
  rw [h3]
theorem qb_8 : ∀ b, b < 128 → ((nb b &&& 255).toUInt32 % 65536).toInt32 = nb b ∧ ((nb b).toInt8.toInt32).toInt8.toInt32 = nb b ∧ fits .byte (.int (nb b)) = true ∧ sg_ch (nb b) = true ∧ (nb b).toInt8.toInt32 = nb b := by decide +kernel
theorem qb_at {κ : sg_S} {n : Nat} {f : Nat → Nat} (h : qb_I κ n f) {i : Nat} (hi : i < n) : f_J4_charAt_5068e (nb i) κ = some (nb (f i)) := by
  obtain ⟨r, ⟨r2, r0, r1, rb⟩, hn, h3, hf⟩ := h
  obtain ⟨b1, b2⟩ := hf i hi
  obtain ⟨q1, _, _, q4, _⟩ := qb_8 (f i) (by omega)
  unfold f_J4_charAt_5068e f_J5_charAt_5068e
  rw [r0, r1, h3, nb_let, nb_grd (decide_eq_true (nb_0le (by omega))), (qb_sr r (by omega)).1, if_neg (nb_lt_f hn (by omega)), nb_let]
  have e1 : f_J0_checkIndex_df160 (nb i) (nb n) = some 0 := by
    unfold f_J0_checkIndex_df160 f_J3_checkIndex_8e157
    rw [if_pos (nb_0le (by omega)), if_neg (nb_le_f hi (by omega)), nb_bnd]
  rw [e1, nb_bnd, if_pos rfl, nb_tn (a := r) (by omega), nb_grd (nb_in (by omega) (by omega)), nb_tn (a := i) (by omega), b2, q1, nb_grd q4, nb_bnd, nb_grd q4]
theorem qb_fit {f : Nat → Int32} {r : Nat} (h : ∀ i, i < r → ∃ b, b ≤ 127 ∧ f i = nb b) : sg_fit f r = true := by
  unfold sg_fit
  rw [List.all_eq_true]
  intro i hi
  obtain ⟨b, hb, e⟩ := h i (List.mem_range.mp hi)
  rw [e]
  exact (qb_8 b (by omega)).2.2.1
theorem qb_ens {κ : sg_S} {r N : Nat} (hR : qb_R κ r) (hN : N ≤ 90) : ∃ κ2 r2, f_J5_ensureCapacityInternal_d00df (nb N) κ = some κ2 ∧ qb_R κ2 r2 ∧ r ≤ r2 ∧ N ≤ r2 ∧ (∀ i, i < r → κ2 1 i = κ 1 i) ∧ κ2 0 3 = κ 0 3 := by
  have hR0 := hR
  obtain ⟨r2, r0, r1, rb⟩ := hR
  unfold f_J5_ensureCapacityInternal_d00df
  rw [r0, r1, nb_grd (decide_eq_true (nb_0le (by omega))), (qb_sr r (by omega)).1, nb_let]
  by_cases c : N ≤ r
  · have e : ¬ (0 : Int32) < nb N - nb r := Int32.not_lt.mpr ((nb_sp (by omega) (by omega)).mpr c)
    rw [if_neg e]
    exact ⟨κ, r, rfl, hR0, Nat.le_refl r, c, fun _ _ => rfl, rfl⟩
  · have e : nb N - nb r = nb (N - r) := nb_sub (by omega)
    have ex : ∃ z, z ≤ 182 ∧ N ≤ z ∧ r + 2 ≤ z ∧ f_J5_newCapacity_0f7a4 (nb N) κ = some (nb z) := by
      have e2 : (2 : Int32) <<< ((0 : Int32) &&& 31) = nb 2 := by decide
      have hm : (if nb (N - r) < nb (r + 2) then nb (r + 2) else nb (N - r)) = nb (if N - r < r + 2 then r + 2 else N - r) := by
        by_cases d : N - r < r + 2
        · rw [if_pos d, if_pos (nb_lt_t d (by omega))]
        · rw [if_neg d, if_neg (nb_lt_f (by omega) (by omega))]
      obtain ⟨z, hz⟩ : ∃ z, z = r + (if N - r < r + 2 then r + 2 else N - r) := ⟨_, rfl⟩
      have hz2 : z ≤ 182 ∧ N ≤ z ∧ r + 2 ≤ z := by
        rw [hz]
        split <;> omega
      refine ⟨z, hz2.1, hz2.2.1, hz2.2.2, ?_⟩
      unfold f_J5_newCapacity_0f7a4 f_J8_newLength_cabcc
      rw [r0, r1, nb_grd (decide_eq_true (nb_0le (by omega))), nb_let, (qb_sr N (by omega)).2, nb_let, e, nb_let, e2, nb_add, hm, nb_add, ← hz, nb_let, if_pos (nb_pos (by omega) (by omega)), if_pos (show nb z ≤ (2147483639 : Int32) from nb_le_t (b := 2147483639) (by omega) (by decide)), nb_bnd, if_neg (show ¬ nb z = (2147483647 : Int32) from nb_ne (b := 2147483647) (by omega) (by omega) (by decide)), (qb_sr z (by omega)).1]
    obtain ⟨z, z1, z2, z3, ez⟩ := ex
    rw [e, if_pos (nb_pos (by omega) (by omega)), ez, nb_bnd, (qb_sr z (by omega)).2, nb_let, nb_grd (decide_eq_true (nb_0le (by omega))), nb_grd (decide_eq_true (nb_lt_t (by omega) (by omega))), nb_tn (a := z) (by omega), nb_grd (decide_eq_true (by omega)), nb_tn (a := r) (by omega), nb_grd (qb_fit rb), nb_let]
    refine ⟨_, z, rfl, ⟨by omega, nb_upE _ _ _ _, ?_, fun i hi => ?_⟩, by omega, z2, fun i hi => ?_, ?_⟩
    · rw [nb_up, if_neg (by omega), nb_ur, if_neg (by omega), r1]
    · rw [nb_up, if_neg (by omega), nb_ur, if_pos rfl, nb_cpy]
      by_cases d : i < r
      · rw [if_pos d]
        exact rb i d
      · rw [if_neg d]
        exact ⟨0, by decide, rfl⟩
    · rw [nb_up, if_neg (by omega), nb_ur, if_pos rfl, nb_cpy, if_pos hi]
    · rw [nb_up, if_neg (by omega), nb_ur, if_neg (by omega)]
theorem qb_latin {κ : sg_S} {r : Nat} (h : qb_R κ r) : f_J5_isLatin1_aae02 κ = some 1 := by
  unfold f_J5_isLatin1_aae02
  rw [if_neg nb_10, if_pos h.2.2.1]
theorem qb_chr {κ : sg_S} {n c : Nat} {f : Nat → Nat} (h : qb_I κ n f) (hn : n ≤ 88) (hc : c ≤ 127) : ∃ κ2, f_J4_append_cf468 (nb c) κ = some κ2 ∧ qb_I κ2 (n + 1) (gw_u f n c) := by
  obtain ⟨r, hR, hnr, h3, hf⟩ := h
  obtain ⟨κ1, r1, e1, hR1, l1, l2, k1, k3⟩ := qb_ens (N := n + 1) hR (by omega)
  obtain ⟨_, q2, _, _, _⟩ := qb_8 c (by omega)
  have hR1' := hR1
  obtain ⟨s1, s2, s3, s4⟩ := hR1
  have c1 : f_J1_canEncode_fc78d (nb c) = some 1 := by
    unfold f_J1_canEncode_fc78d
    rw [if_pos (show nb c ≤ (255 : Int32) from nb_le_t (b := 255) (by omega) (by decide))]
  have r0 : sg_up κ1 0 3 (nb (n + 1)) 0 0 = nb r1 := by rw [nb_up, if_neg (by omega), s2]
  unfold f_J4_append_cf468 f_J5_append_3fe6f
  rw [h3, nb_succ, e1, nb_bnd, qb_latin hR1', nb_bnd, if_neg nb_10, c1, nb_bnd, if_neg nb_10, k3, h3, nb_succ, nb_let, r0, nb_tn (a := r1) (by omega), nb_grd (nb_in (by omega) (by omega)), nb_tn (a := n) (by omega), q2, nb_let, nb_bnd]
  refine ⟨_, rfl, r1, ⟨s1, ?_, ?_, fun i hi => ?_⟩, by omega, ?_, fun i hi => ?_⟩
  · rw [nb_up, if_neg (by omega), nb_up, if_neg (by omega), s2]
  · rw [nb_up, if_neg (by omega), nb_up, if_neg (by omega), s3]
  · rw [nb_up]
    by_cases d : (1 : Nat) = 1 ∧ i = n
    · rw [if_pos d]
      exact ⟨c, hc, rfl⟩
    · rw [if_neg d, nb_up, if_neg (by omega)]
      exact s4 i hi
  · rw [nb_up, if_neg (by omega), nb_upE]
  · rw [nb_up]
    by_cases d : (1 : Nat) = 1 ∧ i = n
    · rw [if_pos d, d.2, gw_at]
      exact ⟨hc, rfl⟩
    · rw [if_neg d, nb_up, if_neg (by omega), gw_ne _ _ (by omega), k1 i (by omega)]
      exact hf i (by omega)
theorem qb_set {κ : sg_S} {n : Nat} {f : Nat → Nat} (h : qb_I κ n f) (g : Nat → Nat) : ∃ κ2, f_J4_setLength_d00df 0 κ = some κ2 ∧ qb_I κ2 0 g := by
  obtain ⟨r, hR, hnr, h3, hf⟩ := h
  have hR0 := hR
  obtain ⟨s1, s2, s3, s4⟩ := hR
  have e : ¬ (0 : Int32) < 0 - nb r := Int32.not_lt.mpr ((nb_sp (a := 0) (by omega) (by omega)).mpr (by omega))
  unfold f_J4_setLength_d00df f_J5_setLength_d00df f_J5_ensureCapacityInternal_d00df_0
  rw [if_neg (by decide), s2, s3, nb_grd (decide_eq_true (nb_0le (by omega))), (qb_sr r (by omega)).1, nb_let, if_neg e, nb_bnd, h3, if_neg (nb_nneg (by omega))]
  by_cases c : n = 0
  · subst c
    rw [if_neg nb_npos, nb_let, nb_bnd]
    refine ⟨_, rfl, r, ⟨s1, ?_, ?_, fun i hi => ?_⟩, by omega, nb_upE _ _ _ _, fun i hi => absurd hi (Nat.not_lt_zero i)⟩
    · rw [nb_up, if_neg (by omega), s2]
    · rw [nb_up, if_neg (by omega), s3]
    · rw [nb_up, if_neg (by omega)]
      exact s4 i hi
  · rw [if_pos (nb_pos (by omega) (by omega)), nb_let, nb_let, nb_bnd]
    refine ⟨_, rfl, r, ⟨s1, ?_, ?_, fun i hi => ?_⟩, by omega, nb_upE _ _ _ _, fun i hi => absurd hi (Nat.not_lt_zero i)⟩
    · rw [nb_up, if_neg (by omega), nb_up, if_neg (by omega), s2]
    · rw [nb_up, if_neg (by omega), nb_up, if_neg (by omega), s3]
    · rw [nb_up, if_neg (by omega), nb_up, if_neg (by omega)]
      exact s4 i hi
