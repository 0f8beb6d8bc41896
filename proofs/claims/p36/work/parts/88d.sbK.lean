/-! PURE: builders that grow further; a text put behind another -/
def qk_R (κ : sg_S) (r : Nat) : Prop := r ≤ 900 ∧ κ 0 0 = nb r ∧ κ 0 1 = 0 ∧ ∀ i, i < r → ∃ b, b ≤ 127 ∧ κ 1 i = nb b
def qk_I (κ : sg_S) (n : Nat) (f : Nat → Nat) : Prop := ∃ r, qk_R κ r ∧ n ≤ r ∧ κ 0 3 = nb n ∧ ∀ i, i < n → f i ≤ 127 ∧ κ 1 i = nb (f i)
theorem qk_sr : ∀ r, r < 901 → nb r >>> ((0 : Int32) &&& 31) = nb r ∧ nb r <<< ((0 : Int32) &&& 31) = nb r := by decide +kernel
theorem qk_ens {κ : sg_S} {r N : Nat} (hR : qk_R κ r) (hN : N ≤ 440) : ∃ κ2 r2, f_J5_ensureCapacityInternal_d00dfK (nb N) κ = some κ2 ∧ qk_R κ2 r2 ∧ r ≤ r2 ∧ N ≤ r2 ∧ (∀ i, i < r → κ2 1 i = κ 1 i) ∧ κ2 0 3 = κ 0 3 ∧ (r2 ≤ r ∨ r2 ≤ 2 * N) := by
  have hR0 := hR
  obtain ⟨r2, r0, r1, rb⟩ := hR
  unfold f_J5_ensureCapacityInternal_d00dfK
  rw [r0, r1, nb_grd (decide_eq_true (nb_0le (by omega))), (qk_sr r (by omega)).1, nb_let]
  by_cases c : N ≤ r
  · have e : ¬ (0 : Int32) < nb N - nb r := Int32.not_lt.mpr ((nb_sp (by omega) (by omega)).mpr c)
    rw [if_neg e]
    exact ⟨κ, r, rfl, hR0, Nat.le_refl r, c, fun _ _ => rfl, rfl, Or.inl (Nat.le_refl r)⟩
  · have e : nb N - nb r = nb (N - r) := nb_sub (by omega)
    have ex : ∃ z, (z ≤ 882 ∧ z ≤ 2 * N) ∧ N ≤ z ∧ r + 2 ≤ z ∧ f_J5_newCapacity_0f7a4 (nb N) κ = some (nb z) := by
      have e2 : (2 : Int32) <<< ((0 : Int32) &&& 31) = nb 2 := by decide
      have hm : (if nb (N - r) < nb (r + 2) then nb (r + 2) else nb (N - r)) = nb (if N - r < r + 2 then r + 2 else N - r) := by
        by_cases d : N - r < r + 2
        · rw [if_pos d, if_pos (nb_lt_t d (by omega))]
        · rw [if_neg d, if_neg (nb_lt_f (by omega) (by omega))]
      obtain ⟨z, hz⟩ : ∃ z, z = r + (if N - r < r + 2 then r + 2 else N - r) := ⟨_, rfl⟩
      have hz2 : (z ≤ 882 ∧ z ≤ 2 * N) ∧ N ≤ z ∧ r + 2 ≤ z := by
        rw [hz]
        split <;> omega
      refine ⟨z, hz2.1, hz2.2.1, hz2.2.2, ?_⟩
      unfold f_J5_newCapacity_0f7a4 f_J8_newLength_cabcc
      rw [r0, r1, nb_grd (decide_eq_true (nb_0le (by omega))), nb_let, (qk_sr N (by omega)).2, nb_let, e, nb_let, e2, nb_add, hm, nb_add, ← hz, nb_let, if_pos (nb_pos (by omega) (by omega)), if_pos (show nb z ≤ (2147483639 : Int32) from nb_le_t (b := 2147483639) (by omega) (by decide)), nb_bnd, if_neg (show ¬ nb z = (2147483647 : Int32) from nb_ne (b := 2147483647) (by omega) (by omega) (by decide)), (qk_sr z (by omega)).1]
    obtain ⟨z, ⟨z1, z4⟩, z2, z3, ez⟩ := ex
    rw [e, if_pos (nb_pos (by omega) (by omega)), ez, nb_bnd, (qk_sr z (by omega)).2, nb_let, nb_grd (decide_eq_true (nb_0le (by omega))), nb_grd (decide_eq_true (nb_lt_t (by omega) (by omega))), nb_tn (a := z) (by omega), nb_grd (decide_eq_true (by omega)), nb_tn (a := r) (by omega), nb_grd (qb_fit rb), nb_let]
    refine ⟨_, z, rfl, ⟨by omega, nb_upE _ _ _ _, ?_, fun i hi => ?_⟩, by omega, z2, fun i hi => ?_, ?_, Or.inr z4⟩
    · rw [nb_up, if_neg (by omega), nb_ur, if_neg (by omega), r1]
    · rw [nb_up, if_neg (by omega), nb_ur, if_pos rfl, nb_cpy]
      by_cases d : i < r
      · rw [if_pos d]
        exact rb i d
      · rw [if_neg d]
        exact ⟨0, by decide, rfl⟩
    · rw [nb_up, if_neg (by omega), nb_ur, if_pos rfl, nb_cpy, if_pos hi]
    · rw [nb_up, if_neg (by omega), nb_ur, if_neg (by omega)]
theorem qk_latin {κ : sg_S} {r : Nat} (h : qk_R κ r) : f_J5_isLatin1_aae02 κ = some 1 := by
  unfold f_J5_isLatin1_aae02
  rw [if_neg nb_10, if_pos h.2.2.1]
theorem qk_chr {κ : sg_S} {n c : Nat} {f : Nat → Nat} (h : qk_I κ n f) (hn : n ≤ 430) (hc : c ≤ 127) : ∃ κ2, f_J4_append_cf468K (nb c) κ = some κ2 ∧ qk_I κ2 (n + 1) (gw_u f n c) := by
  obtain ⟨r, hR, hnr, h3, hf⟩ := h
  obtain ⟨κ1, r1, e1, hR1, l1, l2, k1, k3, _⟩ := qk_ens (N := n + 1) hR (by omega)
  obtain ⟨_, q2, _, _, _⟩ := qb_8 c (by omega)
  have hR1' := hR1
  obtain ⟨s1, s2, s3, s4⟩ := hR1
  have c1 : f_J1_canEncode_fc78d (nb c) = some 1 := by
    unfold f_J1_canEncode_fc78d
    rw [if_pos (show nb c ≤ (255 : Int32) from nb_le_t (b := 255) (by omega) (by decide))]
  have r0 : sg_up κ1 0 3 (nb (n + 1)) 0 0 = nb r1 := by rw [nb_up, if_neg (by omega), s2]
  unfold f_J4_append_cf468K f_J5_append_3fe6fK
  rw [h3, nb_succ, e1, nb_bnd, qk_latin hR1', nb_bnd, if_neg nb_10, c1, nb_bnd, if_neg nb_10, k3, h3, nb_succ, nb_let, r0, nb_tn (a := r1) (by omega), nb_grd (nb_in (by omega) (by omega)), nb_tn (a := n) (by omega), q2, nb_let, nb_bnd]
  refine ⟨_, rfl, r1, ⟨s1, ?_, ?_, fun i hi => ?_⟩, by omega, ?_, fun i hi => ?_⟩
  · rw [nb_up, if_neg (by omega), nb_up, if_neg (by omega), s2]
  · rw [nb_up, if_neg (by omega), nb_up, if_neg (by omega), s3]
  · rw [nb_up]
    by_cases d : (1 : Nat) = 1 ∧ i = n
    · rw [if_pos d]
      exact ⟨c, hc, rfl⟩
    · rw [if_neg d, nb_up, if_neg (by omega)]
      exact s4 i hi
  · rw [nb_up, if_neg (by omega), nb_upE]
  · rw [nb_up]
    by_cases d : (1 : Nat) = 1 ∧ i = n
    · rw [if_pos d, d.2, gw_at]
      exact ⟨hc, rfl⟩
    · rw [if_neg d, nb_up, if_neg (by omega), gw_ne _ _ (by omega), k1 i (by omega)]
      exact hf i (by omega)
/-- the digits of a number below 100, from behind -/
theorem qk_two {x : Int32} {B : sg_S} {r u i n : Nat} (hB : B 1 0 = nb r) (hr : r ≤ 900) (hu : u < 100) (hi : i ≤ r) (h1 : 1 ≤ i) (h2 : 10 ≤ u → 2 ≤ i) : f_J6_getChars_ba4f3_L22 x (n + 1) (-nb u) (nb i) 0 B = some (nb (i - (if u < 10 then 1 else 2)), if u < 10 then sg_up B 0 (i - 1) (nb (48 + u)) else sg_up (sg_up B 0 (i - 1) (nb (48 + u % 10))) 0 (i - 2) (nb (48 + u / 10))) := by
  have e0 : ¬ -nb u ≤ (-100 : Int32) := fun q => by
    have := (qn_le (a := u) (b := 100) (by omega) (by decide)).mp q
    omega
  have e9 : -nb u < (-9 : Int32) ↔ 9 < u := qn_lt (b := 9) (by omega) (by decide)
  obtain ⟨_, _, _, _, q5⟩ := qb_8 (48 + u % 10) (by omega)
  obtain ⟨_, _, _, _, q6⟩ := qb_8 (48 + u / 10) (by omega)
  have o1 : (sg_one u).toInt8.toInt32 = nb (48 + u % 10) := q5
  have o2 : (sg_ten u).toInt8.toInt32 = nb (48 + u / 10) := q6
  have r1 : ∀ k v, sg_up B 0 k v 1 0 = nb r := fun k v => by rw [nb_up, if_neg (by omega), hB]
  rw [f_J6_getChars_ba4f3_L22, if_neg e0, Int32.neg_neg, nb_grd (nb_in (by omega) (by decide)), hB, qn_dec h1, nb_tn (a := r) (by omega), nb_grd (nb_in (by omega) (by omega)), nb_tn (a := i - 1) (by omega), nb_tn (a := u) (by omega), o1, nb_let]
  by_cases c : u < 10
  · rw [if_neg (fun q => by have := e9.mp q; omega), if_pos c, if_pos c, (by omega : u % 10 = u)]
    unfold f_J6_getChars_ba4f3_J104
    rw [if_pos rfl]
  · have h2' := h2 (by omega)
    rw [if_pos (e9.mpr (by omega)), if_neg c, if_neg c, nb_grd (nb_in (by omega) (by decide)), r1, qn_dec (i := i - 1) (by omega), nb_tn (a := r) (by omega), nb_grd (nb_in (by omega) (by omega)), nb_tn (a := i - 1 - 1) (by omega), o2, nb_let, (by omega : i - 1 - 1 = i - 2)]
    unfold f_J6_getChars_ba4f3_J104
    rw [if_pos rfl]
/-- the class puts a number's digits into the places from n on -/
theorem qk_get {B : sg_S} {r v n : Nat} (hB : B 1 0 = nb r) (hr : r ≤ 900) (hv : v < 10000) (hn : n + qd_l v ≤ r) : ∃ q B2, f_J6_getChars_ba4f3 (nb v) (nb (n + qd_l v)) B = some (q, B2) ∧ (∀ i, n ≤ i → i < n + qd_l v → ∀ f, B2 0 i = nb (qd_f f n v i) ∧ qd_f f n v i ≤ 127) ∧ (∀ i, i < n ∨ n + qd_l v ≤ i → B2 0 i = B 0 i) := by
  unfold f_J6_getChars_ba4f3
  rw [if_neg (nb_nneg (by omega)), if_pos rfl, nb_let]
  by_cases c : v < 100
  · have hl : qd_l v = if v < 10 then 1 else 2 := by
      unfold qd_l
      by_cases d : v < 10
      · rw [if_pos d, if_pos d]
      · rw [if_neg d, if_neg d, if_pos c]
    have k := qk_two (x := nb (n + qd_l v)) (n := 999) (i := n + qd_l v) hB hr c hn (by rw [hl]; split <;> omega) (fun h => by rw [hl, if_neg (by omega)]; omega)
    refine ⟨_, _, k, fun i h1 h2 f => ?_, fun i h => ?_⟩
    · unfold qd_f
      by_cases d : v < 10
      · rw [hl, if_pos d] at h2
        rw [if_pos d, if_pos d, hl, if_pos d, (by omega : i = n), gw_at, (by omega : n + 1 - 1 = n), nb_upE]
        exact ⟨rfl, by omega⟩
      · rw [hl, if_neg d] at h2
        rw [if_neg d, if_neg d, if_pos c, hl, if_neg d]
        rcases (by omega : i = n ∨ i = n + 1) with rfl | rfl
        · rw [(by omega : i + 2 - 2 = i), nb_upE, gw_ne _ _ (by omega), gw_at]
          exact ⟨rfl, by omega⟩
        · rw [nb_up, if_neg (by omega), (by omega : n + 2 - 1 = n + 1), nb_upE, gw_at]
          exact ⟨rfl, by omega⟩
    · rw [hl] at h
      by_cases d : v < 10
      · rw [if_pos d] at h
        rw [if_pos d, hl, if_pos d, nb_up, if_neg (by omega)]
      · rw [if_neg d] at h
        rw [if_neg d, hl, if_neg d, nb_up, if_neg (by omega), nb_up, if_neg (by omega)]
  · have hl : qd_l v = 2 + (if v / 100 < 10 then 1 else 2) := by
      unfold qd_l
      by_cases d : v < 1000
      · rw [if_neg (by omega), if_neg c, if_pos d, if_pos (by omega)]
      · rw [if_neg (by omega), if_neg c, if_neg d, if_neg (by omega)]
    have hl3 : 3 ≤ qd_l v := by
      rw [hl]
      split <;> omega
    have e0 : -nb v ≤ (-100 : Int32) := (qn_le (a := v) (b := 100) (by omega) (by decide)).mpr (by omega)
    obtain ⟨_, _, _, _, q5⟩ := qb_8 (48 + v % 100 % 10) (by omega)
    obtain ⟨_, _, _, _, q6⟩ := qb_8 (48 + v % 100 / 10) (by omega)
    have o1 : (sg_one (v % 100)).toInt8.toInt32 = nb (48 + v % 100 % 10) := q5
    have o2 : (sg_ten (v % 100)).toInt8.toInt32 = nb (48 + v % 100 / 10) := q6
    have r1 : ∀ k z, sg_up B 0 k z 1 0 = nb r := fun k z => by rw [nb_up, if_neg (by omega), hB]
    have k0 : f_J6_getChars_ba4f3_L22 (nb (n + qd_l v)) 1000 (-nb v) (nb (n + qd_l v)) 0 B = f_J6_getChars_ba4f3_L22 (nb (n + qd_l v)) (998 + 1) (-nb (v / 100)) (nb (n + qd_l v - 2)) 0 (sg_up (sg_up B 0 (n + qd_l v - 1) (nb (48 + v % 100 % 10))) 0 (n + qd_l v - 2) (nb (48 + v % 100 / 10))) := by
      show f_J6_getChars_ba4f3_L22 (nb (n + qd_l v)) (999 + 1) (-nb v) (nb (n + qd_l v)) 0 B = _
      rw [f_J6_getChars_ba4f3_L22, if_pos e0, qn_div (by omega), nb_let, qn_rem, nb_let, nb_grd (nb_in (by omega) (by decide)), hB, qn_dec (by omega), nb_tn (a := r) (by omega), nb_grd (nb_in (by omega) (by omega)), nb_tn (a := n + qd_l v - 1) (by omega), nb_tn (a := v % 100) (by omega), o1, nb_let, nb_grd (nb_in (by omega) (by decide)), r1, qn_dec (i := n + qd_l v - 1) (by omega), nb_tn (a := r) (by omega), nb_grd (nb_in (by omega) (by omega)), nb_tn (a := n + qd_l v - 1 - 1) (by omega), o2, nb_let, (by omega : n + qd_l v - 1 - 1 = n + qd_l v - 2)]
    have k := qk_two (x := nb (n + qd_l v)) (n := 998) (i := n + qd_l v - 2) (u := v / 100) (B := sg_up (sg_up B 0 (n + qd_l v - 1) (nb (48 + v % 100 % 10))) 0 (n + qd_l v - 2) (nb (48 + v % 100 / 10))) (by rw [nb_up, if_neg (by omega)]; exact r1 _ _) hr (by omega) (by omega) (by omega) (fun h => by rw [hl, if_neg (by omega)]; omega)
    refine ⟨_, _, k0.trans k, fun i h1 h2 f => ?_, fun i h => ?_⟩
    · unfold qd_f
      rw [if_neg (show ¬ v < 10 by omega), if_neg c]
      by_cases d : v < 1000
      · rw [hl, if_pos (show v / 100 < 10 by omega)] at h2
        rw [if_pos d, if_pos (show v / 100 < 10 by omega), hl, if_pos (show v / 100 < 10 by omega)]
        rcases (by omega : i = n ∨ i = n + 1 ∨ i = n + 2) with rfl | rfl | rfl
        · rw [(by omega : i + (2 + 1) - 2 - 1 = i), nb_upE, gw_ne _ _ (by omega), gw_ne _ _ (by omega), gw_at]
          exact ⟨rfl, by omega⟩
        · rw [nb_up, if_neg (by omega), (by omega : n + (2 + 1) - 2 = n + 1), nb_upE, gw_ne _ _ (by omega), gw_at, (by omega : v % 100 / 10 = v / 10 % 10)]
          exact ⟨rfl, by omega⟩
        · rw [nb_up, if_neg (by omega), nb_up, if_neg (by omega), (by omega : n + (2 + 1) - 1 = n + 2), nb_upE, gw_at, (by omega : v % 100 % 10 = v % 10)]
          exact ⟨rfl, by omega⟩
      · rw [hl, if_neg (show ¬ v / 100 < 10 by omega)] at h2
        rw [if_neg d, if_neg (show ¬ v / 100 < 10 by omega), hl, if_neg (show ¬ v / 100 < 10 by omega)]
        rcases (by omega : i = n ∨ i = n + 1 ∨ i = n + 2 ∨ i = n + 3) with rfl | rfl | rfl | rfl
        · rw [(by omega : i + (2 + 2) - 2 - 2 = i), nb_upE, gw_ne _ _ (by omega), gw_ne _ _ (by omega), gw_ne _ _ (by omega), gw_at, (by omega : v / 100 / 10 = v / 1000)]
          exact ⟨rfl, by omega⟩
        · rw [nb_up, if_neg (by omega), (by omega : n + (2 + 2) - 2 - 1 = n + 1), nb_upE, gw_ne _ _ (by omega), gw_ne _ _ (by omega), gw_at]
          exact ⟨rfl, by omega⟩
        · rw [nb_up, if_neg (by omega), nb_up, if_neg (by omega), (by omega : n + (2 + 2) - 2 = n + 2), nb_upE, gw_ne _ _ (by omega), gw_at, (by omega : v % 100 / 10 = v / 10 % 10)]
          exact ⟨rfl, by omega⟩
        · rw [nb_up, if_neg (by omega), nb_up, if_neg (by omega), nb_up, if_neg (by omega), (by omega : n + (2 + 2) - 1 = n + 3), nb_upE, gw_at, (by omega : v % 100 % 10 = v % 10)]
          exact ⟨rfl, by omega⟩
    · rw [hl] at h
      by_cases d : v / 100 < 10
      · rw [if_pos d] at h
        rw [if_pos d, hl, if_pos d, nb_up, if_neg (by omega), nb_up, if_neg (by omega), nb_up, if_neg (by omega)]
      · rw [if_neg d] at h
        rw [if_neg d, hl, if_neg d, nb_up, if_neg (by omega), nb_up, if_neg (by omega), nb_up, if_neg (by omega), nb_up, if_neg (by omega)]
theorem qk_int {κ : sg_S} {n v : Nat} {f : Nat → Nat} (h : qk_I κ n f) (hn : n ≤ 420) (hv : v < 10000) : ∃ κ2, f_J4_append_bf812K (nb v) κ = some κ2 ∧ qk_I κ2 (n + qd_l v) (qd_f f n v) := by
  obtain ⟨r, hR, hnr, h3, hf⟩ := h
  have l4 := qd_l4 v
  obtain ⟨κ1, r1, e1, hR1, l1, l2, k1, k3, _⟩ := qk_ens (N := n + qd_l v) hR (by omega)
  have hR1' := hR1
  obtain ⟨s1, s2, s3, s4⟩ := hR1
  obtain ⟨q, B2, g1, g2, g3⟩ := qk_get (B := sg_e2 1 1 0 κ1) (r := r1) (v := v) (n := n) s2 s1 hv (by omega)
  unfold f_J4_append_bf812K f_J5_append_c97b9K
  rw [h3, nb_let, qd_size hv, nb_bnd, nb_add, nb_let, e1, nb_bnd, qk_latin hR1', nb_bnd, if_neg nb_10, g1, nb_bnd2, nb_let, nb_let, nb_bnd]
  have b0 : ∀ i, sg_e2 1 1 0 κ1 0 i = κ1 1 i := fun i => rfl
  refine ⟨_, rfl, r1, ⟨s1, ?_, ?_, fun i hi => ?_⟩, by omega, ?_, fun i hi => ?_⟩
  · rw [nb_up, if_neg (by omega), nb_ur, if_neg (by omega), s2]
  · rw [nb_up, if_neg (by omega), nb_ur, if_neg (by omega), s3]
  · rw [nb_up, if_neg (by omega), nb_ur, if_pos rfl]
    by_cases d : n ≤ i ∧ i < n + qd_l v
    · obtain ⟨y1, y2⟩ := g2 i d.1 d.2 f
      exact ⟨_, y2, y1⟩
    · rw [g3 i (by omega), b0]
      exact s4 i hi
  · rw [nb_upE]
  · rw [nb_up, if_neg (by omega), nb_ur, if_pos rfl]
    by_cases d : n ≤ i
    · obtain ⟨y1, y2⟩ := g2 i d hi f
      exact ⟨y2, y1⟩
    · rw [g3 i (by omega), b0, k1 i (by omega), qd_old (by omega)]
      exact hf i (by omega)
theorem qk_of {κ : sg_S} {n : Nat} {f : Nat → Nat} (h : qb_I κ n f) : qk_I κ n f := by
  obtain ⟨r, ⟨h1, h2, h3, h4⟩, h5, h6, h7⟩ := h
  exact ⟨r, ⟨by omega, h2, h3, h4⟩, h5, h6, h7⟩
/-- the letters f, n of them, and g behind -/
def ly_cat (f : Nat → Nat) (n : Nat) (g : Nat → Nat) : Nat → Nat := fun i => if i < n then f i else g (i - n)
theorem qk_fit {b : Nat → Int32} {g : Nat → Nat} {w : Nat} (h : ∀ j, j < w → g j ≤ 127 ∧ b j = nb (g j)) : ∀ i, i < w → fits .byte (.int (b i)) = true := fun i hi => by
  obtain ⟨h1, h2⟩ := h i hi
  rw [h2]
  exact (qb_8 (g i) (by omega)).2.2.1
theorem qk_str {κ : sg_S} {r n w : Nat} {f g : Nat → Nat} {b : Nat → Int32} (hR : qk_R κ r) (hnr : n ≤ r) (h3 : κ 0 3 = nb n) (hf : ∀ i, i < n → f i ≤ 127 ∧ κ 1 i = nb (f i)) (hb : ∀ j, j < w → g j ≤ 127 ∧ b j = nb (g j)) (hn : n + w ≤ 440) : ∃ κ1 r2, f_J5_ensureCapacityInternal_d00dfK (nb (n + w)) κ = some κ1 ∧ κ1 0 3 = nb n ∧ κ1 0 1 = 0 ∧ n + w ≤ (κ1 0 0).toNatClampNeg ∧ (r2 ≤ r ∨ r2 ≤ 2 * (n + w)) ∧ qk_R (sg_up (sg_ur κ1 1 (va_cpy b (κ1 1) 0 n w)) 0 3 (nb (n + w))) r2 ∧ n + w ≤ r2 ∧ sg_up (sg_ur κ1 1 (va_cpy b (κ1 1) 0 n w)) 0 3 (nb (n + w)) 0 3 = nb (n + w) ∧ ∀ i, i < n + w → ly_cat f n g i ≤ 127 ∧ sg_up (sg_ur κ1 1 (va_cpy b (κ1 1) 0 n w)) 0 3 (nb (n + w)) 1 i = nb (ly_cat f n g i) := by
  obtain ⟨κ1, r1, e1, hR1, l1, l2, k1, k3, k4⟩ := qk_ens (N := n + w) hR hn
  obtain ⟨s1, s2, s3, s4⟩ := hR1
  have cp : ∀ i, va_cpy b (κ1 1) 0 n w i = if n ≤ i ∧ i < n + w then b (i - n) else κ1 1 i := fun i => by
    unfold va_cpy
    by_cases c : n ≤ i ∧ i < n + w
    · rw [if_pos c, if_pos c, Nat.zero_add]
    · rw [if_neg c, if_neg c]
  refine ⟨κ1, r1, e1, k3.trans h3, s3, ?_, k4, ⟨s1, ?_, ?_, fun i hi => ?_⟩, l2, nb_upE _ _ _ _, fun i hi => ?_⟩
  · rw [s2, nb_tn (by omega)]
    exact l2
  · rw [nb_up, if_neg (by omega), nb_ur, if_neg (by omega), s2]
  · rw [nb_up, if_neg (by omega), nb_ur, if_neg (by omega), s3]
  · rw [nb_up, if_neg (by omega), nb_ur, if_pos rfl, cp]
    by_cases c : n ≤ i ∧ i < n + w
    · rw [if_pos c]
      obtain ⟨y1, y2⟩ := hb (i - n) (by omega)
      exact ⟨_, y1, y2⟩
    · rw [if_neg c]
      exact s4 i hi
  · rw [nb_up, if_neg (by omega), nb_ur, if_pos rfl, cp]
    unfold ly_cat
    by_cases c : i < n
    · rw [if_pos c, if_neg (by omega), k1 i (by omega)]
      exact hf i c
    · rw [if_neg c, if_pos (by omega)]
      exact hb (i - n) (by omega)

