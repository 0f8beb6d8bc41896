/-! NUMBERS IN A LINE: the class's way from behind, the reference's from ahead -/
theorem qn_ti {a : Nat} (h : a < 2147483648) : (-nb a).toInt = -(a : Int) := by
  rw [Int32.toInt_neg, nb_ti h]
  exact Int.bmod_eq_of_le (by omega) (by omega)
theorem qn_lt {a b : Nat} (ha : a < 2147483648) (hb : b < 2147483648) : -nb a < -nb b ↔ b < a := by
  rw [Int32.lt_iff_toInt_lt, qn_ti ha, qn_ti hb]
  omega
theorem qn_le {a b : Nat} (ha : a < 2147483648) (hb : b < 2147483648) : -nb a ≤ -nb b ↔ b ≤ a := by
  rw [Int32.le_iff_toInt_le, qn_ti ha, qn_ti hb]
  omega
theorem qn_div {v : Nat} (h : v < 2147483648) : -nb v / 100 = -nb (v / 100) := by
  rw [← Int32.toInt_inj, Int32.toInt_div, qn_ti h, qn_ti (by omega)]
  have e : (100 : Int32).toInt = 100 := by decide
  have e3 : (v : Int).tdiv 100 = ((v / 100 : Nat) : Int) := rfl
  rw [e, Int.neg_tdiv, e3]
  exact Int.bmod_eq_of_le (by omega) (by omega)
theorem qn_rem {v : Nat} : -nb (v / 100) * 100 - -nb v = nb (v % 100) := by
  rw [Int32.sub_neg, Int32.neg_mul, show nb (v / 100) * 100 = nb (v / 100 * 100) from nb_mul _ 100, Int32.add_comm, ← Int32.sub_eq_add_neg, nb_sub (by omega)]
  congr 1
  omega
theorem qn_dec {i : Nat} (h : 1 ≤ i) : nb i + (-1) = nb (i - 1) := by
  have e := nb_dec (i - 1)
  rw [(by omega : i - 1 + 1 = i)] at e
  exact e
def qd_l (v : Nat) : Nat := if v < 10 then 1 else if v < 100 then 2 else if v < 1000 then 3 else 4
def qd_f (f : Nat → Nat) (n v : Nat) : Nat → Nat := if v < 10 then gw_u f n (48 + v) else if v < 100 then gw_u (gw_u f n (48 + v / 10)) (n + 1) (48 + v % 10) else if v < 1000 then gw_u (gw_u (gw_u f n (48 + v / 100)) (n + 1) (48 + v / 10 % 10)) (n + 2) (48 + v % 10) else gw_u (gw_u (gw_u (gw_u f n (48 + v / 1000)) (n + 1) (48 + v / 100 % 10)) (n + 2) (48 + v / 10 % 10)) (n + 3) (48 + v % 10)
theorem qd_l4 (v : Nat) : qd_l v ≤ 4 := by
  unfold qd_l
  repeat' split
  all_goals omega
theorem qd_size {v : Nat} (hv : v < 10000) : f_J6_stringSize_0f7a4 (nb v) = some (nb (qd_l v)) := by
  have t1 : (10 : Int32) * (-10) = -100 := by decide
  have t2 : (10 : Int32) * (-100) = -1000 := by decide
  have t3 : (10 : Int32) * (-1000) = -10000 := by decide
  have l1 : (-10 : Int32) < -nb v ↔ v < 10 := qn_lt (a := 10) (by decide) (by omega)
  have l2 : (-100 : Int32) < -nb v ↔ v < 100 := qn_lt (a := 100) (by decide) (by omega)
  have l3 : (-1000 : Int32) < -nb v ↔ v < 1000 := qn_lt (a := 1000) (by decide) (by omega)
  have l4 : (-10000 : Int32) < -nb v ↔ v < 10000 := qn_lt (a := 10000) (by decide) (by omega)
  have st : ∀ n z p i, i < (10 : Int32) → f_J6_stringSize_0f7a4_L16 (n + 1) z 0 p i = if p < z then some (i + 0) else f_J6_stringSize_0f7a4_L16 n z 0 (10 * p) (i + 1) := fun n z p i hi => by
    rw [f_J6_stringSize_0f7a4_L16, if_pos hi, nb_let]
  unfold f_J6_stringSize_0f7a4
  rw [if_pos (nb_0le (by omega)), nb_let]
  unfold qd_l
  refine (st 999 (-nb v) (-10) 1 (by decide)).trans ?_
  by_cases c1 : v < 10
  · rw [if_pos (l1.mpr c1), if_pos c1]
    try rfl
  rw [if_neg (fun q => c1 (l1.mp q)), if_neg c1, t1]
  refine (st 998 (-nb v) (-100) (1 + 1) (by decide)).trans ?_
  by_cases c2 : v < 100
  · rw [if_pos (l2.mpr c2), if_pos c2]
    try rfl
  rw [if_neg (fun q => c2 (l2.mp q)), if_neg c2, t2]
  refine (st 997 (-nb v) (-1000) (1 + 1 + 1) (by decide)).trans ?_
  by_cases c3 : v < 1000
  · rw [if_pos (l3.mpr c3), if_pos c3]
    try rfl
  rw [if_neg (fun q => c3 (l3.mp q)), if_neg c3, t3]
  refine (st 996 (-nb v) (-10000) (1 + 1 + 1 + 1) (by decide)).trans ?_
  rw [if_pos (l4.mpr hv)]
  try rfl
/-- the digits of a number below 100, from behind -/
theorem qd_two {x : Int32} {B : sg_S} {r u i n : Nat} (hB : B 1 0 = nb r) (hr : r ≤ 200) (hu : u < 100) (hi : i ≤ r) (h1 : 1 ≤ i) (h2 : 10 ≤ u → 2 ≤ i) : f_J6_getChars_ba4f3_L22 x (n + 1) (-nb u) (nb i) 0 B = some (nb (i - (if u < 10 then 1 else 2)), if u < 10 then sg_up B 0 (i - 1) (nb (48 + u)) else sg_up (sg_up B 0 (i - 1) (nb (48 + u % 10))) 0 (i - 2) (nb (48 + u / 10))) := by
  have e0 : ¬ -nb u ≤ (-100 : Int32) := fun q => by
    have := (qn_le (a := u) (b := 100) (by omega) (by decide)).mp q
    omega
  have e9 : -nb u < (-9 : Int32) ↔ 9 < u := qn_lt (b := 9) (by omega) (by decide)
  obtain ⟨_, _, _, _, q5⟩ := qb_8 (48 + u % 10) (by omega)
  obtain ⟨_, _, _, _, q6⟩ := qb_8 (48 + u / 10) (by omega)
  have o1 : (sg_one u).toInt8.toInt32 = nb (48 + u % 10) := q5
  have o2 : (sg_ten u).toInt8.toInt32 = nb (48 + u / 10) := q6
  have r1 : ∀ k v, sg_up B 0 k v 1 0 = nb r := fun k v => by rw [nb_up, if_neg (by omega), hB]
  rw [f_J6_getChars_ba4f3_L22, if_neg e0, Int32.neg_neg, nb_grd (nb_in (by omega) (by decide)), hB, qn_dec h1, nb_tn (a := r) (by omega), nb_grd (nb_in (by omega) (by omega)), nb_tn (a := i - 1) (by omega), nb_tn (a := u) (by omega), o1, nb_let]
  by_cases c : u < 10
  · rw [if_neg (fun q => by have := e9.mp q; omega), if_pos c, if_pos c, (by omega : u % 10 = u)]
    unfold f_J6_getChars_ba4f3_J104
    rw [if_pos rfl]
  · have h2' := h2 (by omega)
    rw [if_pos (e9.mpr (by omega)), if_neg c, if_neg c, nb_grd (nb_in (by omega) (by decide)), r1, qn_dec (i := i - 1) (by omega), nb_tn (a := r) (by omega), nb_grd (nb_in (by omega) (by omega)), nb_tn (a := i - 1 - 1) (by omega), o2, nb_let, (by omega : i - 1 - 1 = i - 2)]
    unfold f_J6_getChars_ba4f3_J104
    rw [if_pos rfl]
/-- the class puts a number's digits into the places from n on -/
theorem qd_get {B : sg_S} {r v n : Nat} (hB : B 1 0 = nb r) (hr : r ≤ 200) (hv : v < 10000) (hn : n + qd_l v ≤ r) : ∃ q B2, f_J6_getChars_ba4f3 (nb v) (nb (n + qd_l v)) B = some (q, B2) ∧ (∀ i, n ≤ i → i < n + qd_l v → ∀ f, B2 0 i = nb (qd_f f n v i) ∧ qd_f f n v i ≤ 127) ∧ (∀ i, i < n ∨ n + qd_l v ≤ i → B2 0 i = B 0 i) := by
  unfold f_J6_getChars_ba4f3
  rw [if_neg (nb_nneg (by omega)), if_pos rfl, nb_let]
  by_cases c : v < 100
  · have hl : qd_l v = if v < 10 then 1 else 2 := by
      unfold qd_l
      by_cases d : v < 10
      · rw [if_pos d, if_pos d]
      · rw [if_neg d, if_neg d, if_pos c]
    have k := qd_two (x := nb (n + qd_l v)) (n := 999) (i := n + qd_l v) hB hr c hn (by rw [hl]; split <;> omega) (fun h => by rw [hl, if_neg (by omega)]; omega)
    refine ⟨_, _, k, fun i h1 h2 f => ?_, fun i h => ?_⟩
    · unfold qd_f
      by_cases d : v < 10
      · rw [hl, if_pos d] at h2
        rw [if_pos d, if_pos d, hl, if_pos d, (by omega : i = n), gw_at, (by omega : n + 1 - 1 = n), nb_upE]
        exact ⟨rfl, by omega⟩
      · rw [hl, if_neg d] at h2
        rw [if_neg d, if_neg d, if_pos c, hl, if_neg d]
        rcases (by omega : i = n ∨ i = n + 1) with rfl | rfl
        · rw [(by omega : i + 2 - 2 = i), nb_upE, gw_ne _ _ (by omega), gw_at]
          exact ⟨rfl, by omega⟩
        · rw [nb_up, if_neg (by omega), (by omega : n + 2 - 1 = n + 1), nb_upE, gw_at]
          exact ⟨rfl, by omega⟩
    · rw [hl] at h
      by_cases d : v < 10
      · rw [if_pos d] at h
        rw [if_pos d, hl, if_pos d, nb_up, if_neg (by omega)]
      · rw [if_neg d] at h
        rw [if_neg d, hl, if_neg d, nb_up, if_neg (by omega), nb_up, if_neg (by omega)]
  · have hl : qd_l v = 2 + (if v / 100 < 10 then 1 else 2) := by
      unfold qd_l
      by_cases d : v < 1000
      · rw [if_neg (by omega), if_neg c, if_pos d, if_pos (by omega)]
      · rw [if_neg (by omega), if_neg c, if_neg d, if_neg (by omega)]
    have hl3 : 3 ≤ qd_l v := by
      rw [hl]
      split <;> omega
    have e0 : -nb v ≤ (-100 : Int32) := (qn_le (a := v) (b := 100) (by omega) (by decide)).mpr (by omega)
    obtain ⟨_, _, _, _, q5⟩ := qb_8 (48 + v % 100 % 10) (by omega)
    obtain ⟨_, _, _, _, q6⟩ := qb_8 (48 + v % 100 / 10) (by omega)
    have o1 : (sg_one (v % 100)).toInt8.toInt32 = nb (48 + v % 100 % 10) := q5
    have o2 : (sg_ten (v % 100)).toInt8.toInt32 = nb (48 + v % 100 / 10) := q6
    have r1 : ∀ k z, sg_up B 0 k z 1 0 = nb r := fun k z => by rw [nb_up, if_neg (by omega), hB]
    have k0 : f_J6_getChars_ba4f3_L22 (nb (n + qd_l v)) 1000 (-nb v) (nb (n + qd_l v)) 0 B = f_J6_getChars_ba4f3_L22 (nb (n + qd_l v)) (998 + 1) (-nb (v / 100)) (nb (n + qd_l v - 2)) 0 (sg_up (sg_up B 0 (n + qd_l v - 1) (nb (48 + v % 100 % 10))) 0 (n + qd_l v - 2) (nb (48 + v % 100 / 10))) := by
      show f_J6_getChars_ba4f3_L22 (nb (n + qd_l v)) (999 + 1) (-nb v) (nb (n + qd_l v)) 0 B = _
      rw [f_J6_getChars_ba4f3_L22, if_pos e0, qn_div (by omega), nb_let, qn_rem, nb_let, nb_grd (nb_in (by omega) (by decide)), hB, qn_dec (by omega), nb_tn (a := r) (by omega), nb_grd (nb_in (by omega) (by omega)), nb_tn (a := n + qd_l v - 1) (by omega), nb_tn (a := v % 100) (by omega), o1, nb_let, nb_grd (nb_in (by omega) (by decide)), r1, qn_dec (i := n + qd_l v - 1) (by omega), nb_tn (a := r) (by omega), nb_grd (nb_in (by omega) (by omega)), nb_tn (a := n + qd_l v - 1 - 1) (by omega), o2, nb_let, (by omega : n + qd_l v - 1 - 1 = n + qd_l v - 2)]
    have k := qd_two (x := nb (n + qd_l v)) (n := 998) (i := n + qd_l v - 2) (u := v / 100) (B := sg_up (sg_up B 0 (n + qd_l v - 1) (nb (48 + v % 100 % 10))) 0 (n + qd_l v - 2) (nb (48 + v % 100 / 10))) (by rw [nb_up, if_neg (by omega)]; exact r1 _ _) hr (by omega) (by omega) (by omega) (fun h => by rw [hl, if_neg (by omega)]; omega)
    refine ⟨_, _, k0.trans k, fun i h1 h2 f => ?_, fun i h => ?_⟩
    · unfold qd_f
      rw [if_neg (show ¬ v < 10 by omega), if_neg c]
      by_cases d : v < 1000
      · rw [hl, if_pos (show v / 100 < 10 by omega)] at h2
        rw [if_pos d, if_pos (show v / 100 < 10 by omega), hl, if_pos (show v / 100 < 10 by omega)]
        rcases (by omega : i = n ∨ i = n + 1 ∨ i = n + 2) with rfl | rfl | rfl
        · rw [(by omega : i + (2 + 1) - 2 - 1 = i), nb_upE, gw_ne _ _ (by omega), gw_ne _ _ (by omega), gw_at]
          exact ⟨rfl, by omega⟩
        · rw [nb_up, if_neg (by omega), (by omega : n + (2 + 1) - 2 = n + 1), nb_upE, gw_ne _ _ (by omega), gw_at, (by omega : v % 100 / 10 = v / 10 % 10)]
          exact ⟨rfl, by omega⟩
        · rw [nb_up, if_neg (by omega), nb_up, if_neg (by omega), (by omega : n + (2 + 1) - 1 = n + 2), nb_upE, gw_at, (by omega : v % 100 % 10 = v % 10)]
          exact ⟨rfl, by omega⟩
      · rw [hl, if_neg (show ¬ v / 100 < 10 by omega)] at h2
        rw [if_neg d, if_neg (show ¬ v / 100 < 10 by omega), hl, if_neg (show ¬ v / 100 < 10 by omega)]
        rcases (by omega : i = n ∨ i = n + 1 ∨ i = n + 2 ∨ i = n + 3) with rfl | rfl | rfl | rfl
        · rw [(by omega : i + (2 + 2) - 2 - 2 = i), nb_upE, gw_ne _ _ (by omega), gw_ne _ _ (by omega), gw_ne _ _ (by omega), gw_at, (by omega : v / 100 / 10 = v / 1000)]
          exact ⟨rfl, by omega⟩
        · rw [nb_up, if_neg (by omega), (by omega : n + (2 + 2) - 2 - 1 = n + 1), nb_upE, gw_ne _ _ (by omega), gw_ne _ _ (by omega), gw_at]
          exact ⟨rfl, by omega⟩
        · rw [nb_up, if_neg (by omega), nb_up, if_neg (by omega), (by omega : n + (2 + 2) - 2 = n + 2), nb_upE, gw_ne _ _ (by omega), gw_at, (by omega : v % 100 / 10 = v / 10 % 10)]
          exact ⟨rfl, by omega⟩
        · rw [nb_up, if_neg (by omega), nb_up, if_neg (by omega), nb_up, if_neg (by omega), (by omega : n + (2 + 2) - 1 = n + 3), nb_upE, gw_at, (by omega : v % 100 % 10 = v % 10)]
          exact ⟨rfl, by omega⟩
    · rw [hl] at h
      by_cases d : v / 100 < 10
      · rw [if_pos d] at h
        rw [if_pos d, hl, if_pos d, nb_up, if_neg (by omega), nb_up, if_neg (by omega), nb_up, if_neg (by omega)]
      · rw [if_neg d] at h
        rw [if_neg d, hl, if_neg d, nb_up, if_neg (by omega), nb_up, if_neg (by omega), nb_up, if_neg (by omega), nb_up, if_neg (by omega)]
theorem qd_old {f : Nat → Nat} {n v i : Nat} (h : i < n) : qd_f f n v i = f i := by
  unfold qd_f
  repeat' split
  all_goals
    repeat rw [gw_ne _ _ (by omega)]
theorem qb_int {κ : sg_S} {n v : Nat} {f : Nat → Nat} (h : qb_I κ n f) (hn : n ≤ 84) (hv : v < 10000) : ∃ κ2, f_J4_append_bf812 (nb v) κ = some κ2 ∧ qb_I κ2 (n + qd_l v) (qd_f f n v) := by
  obtain ⟨r, hR, hnr, h3, hf⟩ := h
  have l4 := qd_l4 v
  obtain ⟨κ1, r1, e1, hR1, l1, l2, k1, k3⟩ := qb_ens (N := n + qd_l v) hR (by omega)
  have hR1' := hR1
  obtain ⟨s1, s2, s3, s4⟩ := hR1
  obtain ⟨q, B2, g1, g2, g3⟩ := qd_get (B := sg_e2 1 1 0 κ1) (r := r1) (v := v) (n := n) s2 s1 hv (by omega)
  unfold f_J4_append_bf812 f_J5_append_c97b9
  rw [h3, nb_let, qd_size hv, nb_bnd, nb_add, nb_let, e1, nb_bnd, qb_latin hR1', nb_bnd, if_neg nb_10, g1, nb_bnd2, nb_let, nb_let, nb_bnd]
  have b0 : ∀ i, sg_e2 1 1 0 κ1 0 i = κ1 1 i := fun i => rfl
  refine ⟨_, rfl, r1, ⟨s1, ?_, ?_, fun i hi => ?_⟩, by omega, ?_, fun i hi => ?_⟩
  · rw [nb_up, if_neg (by omega), nb_ur, if_neg (by omega), s2]
  · rw [nb_up, if_neg (by omega), nb_ur, if_neg (by omega), s3]
  · rw [nb_up, if_neg (by omega), nb_ur, if_pos rfl]
    by_cases d : n ≤ i ∧ i < n + qd_l v
    · obtain ⟨y1, y2⟩ := g2 i d.1 d.2 f
      exact ⟨_, y2, y1⟩
    · rw [g3 i (by omega), b0]
      exact s4 i hi
  · rw [nb_upE]
  · rw [nb_up, if_neg (by omega), nb_ur, if_pos rfl]
    by_cases d : n ≤ i
    · obtain ⟨y1, y2⟩ := g2 i d hi f
      exact ⟨y2, y1⟩
    · rw [g3 i (by omega), b0, k1 i (by omega), qd_old (by omega)]
      exact hf i (by omega)
/-! the reference's line -/
def ql_I (τ : sg_S) (n : Nat) (f : Nat → Nat) : Prop := τ 0 24 = nb n ∧ ∀ k, k < n → τ 9 k = nb (f k)
def ql_F (τ τ2 : sg_S) : Prop := ∀ p k, p ≠ 9 → ¬ (p = 0 ∧ k = 24) → τ2 p k = τ p k
theorem ql_Frf (τ : sg_S) : ql_F τ τ := fun _ _ _ _ => rfl
theorem ql_Ftr {a b c : sg_S} (h : ql_F a b) (h2 : ql_F b c) : ql_F a c := fun p k h3 h4 => (h2 p k h3 h4).trans (h p k h3 h4)
theorem ql_chr {τ : sg_S} {n c : Nat} {f : Nat → Nat} (h : ql_I τ n f) (hn : n < 140) : ∃ τ2, f_X8_writes (nb c) τ = some τ2 ∧ ql_I τ2 (n + 1) (gw_u f n c) ∧ ql_F τ τ2 := by
  obtain ⟨h0, hf⟩ := h
  have r0 : sg_up τ 9 n (nb c) 0 24 = nb n := by rw [nb_up, if_neg (by omega), h0]
  unfold f_X8_writes
  rw [h0, nb_grd (nb_in hn (by decide)), nb_tn (by omega), nb_let, r0, nb_succ, nb_let]
  refine ⟨_, rfl, ⟨nb_upE _ _ _ _, fun k hk => ?_⟩, fun p k h9 h24 => ?_⟩
  · rw [nb_up, if_neg (by omega), nb_up]
    by_cases d : (9 : Nat) = 9 ∧ k = n
    · rw [if_pos d, d.2, gw_at]
    · rw [if_neg d, gw_ne _ _ (by omega)]
      exact hf k (by omega)
  · rw [nb_up, if_neg h24, nb_up, if_neg (by omega)]
theorem ql_dig {v z : Nat} (hv : v < 10000) (hz : 1 ≤ z) (hz2 : z < 10001) : (48 : Int32) + (nb v / nb z - nb v / nb z / 10 * 10) = nb (48 + v / z % 10) := by
  have hd : v / z < 10000 := Nat.lt_of_le_of_lt (Nat.div_le_self v z) hv
  have e : nb v / nb z = nb (v / z) := nb_div (by omega) (by omega)
  have e2 : nb (v / z) / 10 = nb (v / z / 10) := nb_div (b := 10) (by omega) (by decide)
  have e3 : nb (v / z / 10) * 10 = nb (v / z / 10 * 10) := nb_mul _ 10
  rw [e, e2, e3, nb_sub (by omega), show (48 : Int32) + nb (v / z - v / z / 10 * 10) = nb (48 + (v / z - v / z / 10 * 10)) from nb_add 48 _]
  congr 1
  omega
theorem ql_18 {τ : sg_S} {n v z N : Nat} {f : Nat → Nat} (h : ql_I τ n f) (hn : n < 140) (hv : v < 10000) (hz : 1 ≤ z) (hz2 : z < 10001) : ∃ τ2, f_X8_writesNumber_L18 (nb v) (N + 1) (nb z) τ = f_X8_writesNumber_L18 (nb v) N (nb (z / 10)) τ2 ∧ ql_I τ2 (n + 1) (gw_u f n (48 + v / z % 10)) ∧ ql_F τ τ2 := by
  obtain ⟨τ2, a, b, c⟩ := ql_chr (c := 48 + v / z % 10) h hn
  refine ⟨τ2, ?_, b, c⟩
  have nz : (!decide (nb z = 0)) = true := by
    rw [decide_eq_false (show ¬ nb z = 0 from nb_ne (b := 0) (by omega) (by omega) (by decide))]
    rfl
  have e10 : nb z / 10 = nb (z / 10) := nb_div (b := 10) (by omega) (by decide)
  rw [f_X8_writesNumber_L18, if_pos (nb_pos (by omega) (by omega)), nb_grd nz, ql_dig hv hz hz2, a, nb_bnd, e10, nb_let]
theorem ql_180 {x : Int32} {τ : sg_S} {N : Nat} : f_X8_writesNumber_L18 x (N + 1) (nb 0) τ = some τ := by
  rw [f_X8_writesNumber_L18, if_neg nb_npos]
theorem ql_2 {τ : sg_S} {v z N : Nat} (hv : v < 10000) (hz : 1 ≤ z) (hz2 : z < 10001) : f_X8_writesNumber_L2 (nb v) (N + 1) (nb z) τ = if 10 ≤ v / z then f_X8_writesNumber_L2 (nb v) N (nb (z * 10)) τ else f_X8_writesNumber_L18 (nb v) 1000 (nb z) τ := by
  have nz : (!decide (nb z = 0)) = true := by
    rw [decide_eq_false (show ¬ nb z = 0 from nb_ne (b := 0) (by omega) (by omega) (by decide))]
    rfl
  have hd : v / z < 10000 := Nat.lt_of_le_of_lt (Nat.div_le_self v z) hv
  have e : nb v / nb z = nb (v / z) := nb_div (by omega) (by omega)
  have e2 : nb z * 10 = nb (z * 10) := nb_mul z 10
  rw [f_X8_writesNumber_L2, nb_grd nz, e, e2, nb_let]
  by_cases c : 10 ≤ v / z
  · rw [if_pos c, if_pos (show (10 : Int32) ≤ nb (v / z) from nb_le_t (a := 10) c (by omega))]
  · rw [if_neg c, if_neg (show ¬ (10 : Int32) ≤ nb (v / z) from nb_le_f (a := 10) (by omega) (by decide))]
theorem ql_int {τ : sg_S} {n v : Nat} {f : Nat → Nat} (h : ql_I τ n f) (hn : n ≤ 100) (hv : v < 10000) : ∃ τ2, f_X8_writesNumber (nb v) τ = some τ2 ∧ ql_I τ2 (n + qd_l v) (qd_f f n v) ∧ ql_F τ τ2 := by
  have k1 : f_X8_writesNumber (nb v) τ = f_X8_writesNumber_L2 (nb v) (999 + 1) (nb 1) τ := rfl
  rw [k1, ql_2 hv (by decide) (by decide)]
  unfold qd_l qd_f
  by_cases c1 : v < 10
  · rw [if_neg (by omega), if_pos c1, if_pos c1]
    obtain ⟨τ2, a, b, c⟩ := ql_18 (N := 999) (z := 1) h (by omega) hv (by decide) (by decide)
    rw [(by omega : v / 1 % 10 = v)] at b
    exact ⟨τ2, a.trans ql_180, b, c⟩
  rw [if_pos (by omega), if_neg c1, if_neg c1, ql_2 (N := 998) hv (by decide) (by decide)]
  by_cases c2 : v < 100
  · rw [if_neg (by omega), if_pos c2, if_pos c2]
    obtain ⟨τ2, a, b, c⟩ := ql_18 (N := 999) (z := 10) h (by omega) hv (by decide) (by decide)
    obtain ⟨τ3, a3, b3, c3⟩ := ql_18 (N := 998) (z := 1) b (by omega) hv (by decide) (by decide)
    rw [(by omega : v / 1 % 10 = v % 10), (by omega : v / 10 % 10 = v / 10)] at b3
    exact ⟨τ3, a.trans (a3.trans ql_180), b3, ql_Ftr c c3⟩
  rw [if_pos (by omega), if_neg c2, if_neg c2, ql_2 (N := 997) hv (by decide) (by decide)]
  by_cases c3 : v < 1000
  · rw [if_neg (by omega), if_pos c3, if_pos c3]
    obtain ⟨τ2, a, b, c⟩ := ql_18 (N := 999) (z := 100) h (by omega) hv (by decide) (by decide)
    obtain ⟨τ3, a3, b3, c3⟩ := ql_18 (N := 998) (z := 10) b (by omega) hv (by decide) (by decide)
    obtain ⟨τ4, a4, b4, c4⟩ := ql_18 (N := 997) (z := 1) b3 (by omega) hv (by decide) (by decide)
    rw [(by omega : v / 1 % 10 = v % 10), (by omega : v / 100 % 10 = v / 100)] at b4
    exact ⟨τ4, a.trans (a3.trans (a4.trans ql_180)), b4, ql_Ftr c (ql_Ftr c3 c4)⟩
  rw [if_pos (by omega), if_neg c3, if_neg c3, ql_2 (N := 996) hv (by decide) (by decide), if_neg (by omega)]
  obtain ⟨τ2, a, b, c⟩ := ql_18 (N := 999) (z := 1000) h (by omega) hv (by decide) (by decide)
  obtain ⟨τ3, a3, b3, c3⟩ := ql_18 (N := 998) (z := 100) b (by omega) hv (by decide) (by decide)
  obtain ⟨τ4, a4, b4, c4⟩ := ql_18 (N := 997) (z := 10) b3 (by omega) hv (by decide) (by decide)
  obtain ⟨τ5, a5, b5, c5⟩ := ql_18 (N := 996) (z := 1) b4 (by omega) hv (by decide) (by decide)
  rw [(by omega : v / 1 % 10 = v % 10), (by omega : v / 1000 % 10 = v / 1000)] at b5
  exact ⟨τ5, a.trans (a3.trans (a4.trans (a5.trans ql_180))), b5, ql_Ftr c (ql_Ftr c3 (ql_Ftr c4 c5))⟩
