/-! PURE: the books add up -/
def ge_s (w : Nat → Nat) : Nat := w (10 + 4 * 0) + w (10 + 4 * 1) + w (10 + 4 * 2) + w (10 + 4 * 3) + w (10 + 4 * 4)
def ge_E (m : Nat) (w : Nat → Nat) : Prop := 50 + w 2 = ge_s w + w 3 + w 4 + 4 * w 9 ∧ w 8 ≤ w 7 ∧ w 6 % 2 = 0 ∧ w 2 ≤ 320 * m ∧ w 3 ≤ 320 * m ∧ w 4 ≤ 320 * m ∧ w 5 ≤ 320 * m ∧ w 6 ≤ 320 * m ∧ w 7 ≤ 320 * m ∧ w 7 + w 1 ≤ m
theorem ge_su {w w2 : Nat → Nat} {t v : Nat} (ht : t < 5) (h : ∀ q, q < 5 → w2 (10 + 4 * q) = if q = t then v else w (10 + 4 * q)) : ge_s w2 + w (10 + 4 * t) = ge_s w + v := by
  have a0 := h 0 (by decide)
  have a1 := h 1 (by decide)
  have a2 := h 2 (by decide)
  have a3 := h 3 (by decide)
  have a4 := h 4 (by decide)
  unfold ge_s
  rcases (by omega : t = 0 ∨ t = 1 ∨ t = 2 ∨ t = 3 ∨ t = 4) with rfl | rfl | rfl | rfl | rfl
  · rw [if_pos rfl] at a0
    rw [if_neg (by decide)] at a1 a2 a3 a4
    omega
  · rw [if_pos rfl] at a1
    rw [if_neg (by decide)] at a0 a2 a3 a4
    omega
  · rw [if_pos rfl] at a2
    rw [if_neg (by decide)] at a0 a1 a3 a4
    omega
  · rw [if_pos rfl] at a3
    rw [if_neg (by decide)] at a0 a1 a2 a4
    omega
  · rw [if_pos rfl] at a4
    rw [if_neg (by decide)] at a0 a1 a2 a3
    omega
theorem ge_sx {w w2 : Nat → Nat} (h : ∀ q, q < 5 → w2 (10 + 4 * q) = w (10 + 4 * q)) : ge_s w2 = ge_s w := by
  unfold ge_s
  rw [h 0 (by decide), h 1 (by decide), h 2 (by decide), h 3 (by decide), h 4 (by decide)]
theorem ge_le {w : Nat → Nat} {t : Nat} (ht : t < 5) : w (10 + 4 * t) ≤ ge_s w := by
  unfold ge_s
  rcases (by omega : t = 0 ∨ t = 1 ∨ t = 2 ∨ t = 3 ∨ t = 4) with rfl | rfl | rfl | rfl | rfl <;> omega
theorem ge_mono {m m2 : Nat} {w : Nat → Nat} (h : ge_E m w) (hm : m ≤ m2) : ge_E m2 w := by
  obtain ⟨a, b, c, d1, d2, d3, d4, d5, d6⟩ := h
  exact ⟨a, b, c, by omega, by omega, by omega, by omega, by omega, by omega⟩
/-- nothing of the books has changed -/
theorem ge_same {m m2 : Nat} {w w2 : Nat → Nat} (h : ge_E m w) (hm : m ≤ m2) (hx : ∀ x, 1 ≤ x → x ≤ 9 → w2 x = w x) (hs : ∀ q, q < 5 → w2 (10 + 4 * q) = w (10 + 4 * q)) : ge_E m2 w2 := by
  obtain ⟨a, b, c, d1, d2, d3, d4, d5, d6⟩ := ge_mono h hm
  unfold ge_E
  rw [ge_sx hs, hx 1 (by decide) (by decide), hx 2 (by decide) (by decide), hx 3 (by decide) (by decide), hx 4 (by decide) (by decide), hx 5 (by decide) (by decide), hx 6 (by decide) (by decide), hx 7 (by decide) (by decide), hx 8 (by decide) (by decide), hx 9 (by decide) (by decide)]
  exact ⟨a, b, c, d1, d2, d3, d4, d5, d6⟩
/-- what settling does to the books -/
def ge_T (w w2 : Nat → Nat) (d : Nat) : Prop := ge_s w2 + w2 3 = ge_s w + w 3 ∧ w2 2 = w 2 ∧ w2 4 = w 4 ∧ w2 5 = w 5 ∧ w2 9 = w 9 ∧ (w 8 ≤ w 7 → w2 8 ≤ w2 7) ∧ w2 6 % 2 = w 6 % 2 ∧ w2 3 ≤ w 3 + 40 * d ∧ w2 6 ≤ w 6 + 40 * d ∧ w2 7 ≤ w 7 + 40 * d ∧ w2 7 + w2 1 = w 7 + w 1
theorem ge_Tr (w : Nat → Nat) (d : Nat) : ge_T w w d := ⟨rfl, rfl, rfl, rfl, rfl, id, rfl, by omega, by omega, by omega⟩
theorem ge_Tm {w w2 : Nat → Nat} {d e : Nat} (h : ge_T w w2 d) (he : d ≤ e) : ge_T w w2 e := by
  obtain ⟨a1, a2, a3, a4, a5, a6, a7, a8, a9, a10⟩ := h
  exact ⟨a1, a2, a3, a4, a5, a6, a7, by omega, by omega, by omega⟩
theorem ge_Tt {w w2 w3 : Nat → Nat} {d e : Nat} (h : ge_T w w2 d) (h2 : ge_T w2 w3 e) : ge_T w w3 (e + d) := by
  obtain ⟨a1, a2, a3, a4, a5, a6, a7, a8, a9, a10⟩ := h
  obtain ⟨b1, b2, b3, b4, b5, b6, b7, b8, b9, b10⟩ := h2
  exact ⟨by omega, by omega, by omega, by omega, by omega, fun h => b6 (a6 h), by omega, by omega, by omega, by omega⟩
theorem ge_5 {w : Nat → Nat} {t h x : Nat} (hx : x < 10) : gp_5 w t h x = w x + (if x = 3 then gp_p w t h else if x = 6 then 2 * (h - gp_p w t h) else if x = 7 then 1 else 0) := by
  have n1 : x ≠ 10 + 4 * t := by omega
  have n2 : x ≠ 13 + 4 * t := by omega
  unfold gp_5
  by_cases c7 : x = 7
  · subst c7
    rw [gw_pat, gw_pne _ _ (by decide), gw_pne _ _ (by decide), gw_pne _ _ n2, gw_mne _ _ n1, if_neg (by decide), if_neg (by decide), if_pos rfl]
  · by_cases c6 : x = 6
    · subst c6
      rw [gw_pne _ _ (by decide), gw_pat, gw_pne _ _ (by decide), gw_pne _ _ n2, gw_mne _ _ n1, if_neg (by decide), if_pos rfl]
    · by_cases c3 : x = 3
      · subst c3
        rw [gw_pne _ _ (by decide), gw_pne _ _ (by decide), gw_pat, gw_pne _ _ n2, gw_mne _ _ n1, if_pos rfl]
      · rw [gw_pne _ _ c7, gw_pne _ _ c6, gw_pne _ _ c3, gw_pne _ _ n2, gw_mne _ _ n1, if_neg c3, if_neg c6, if_neg c7, Nat.add_zero]
theorem ge_z {w : Nat → Nat} {t h x : Nat} (hx : x < 10) : gp_z w t h x = w x + (if x = 3 then gp_p w t h else if x = 6 then 2 * (h - gp_p w t h) else if x = 7 then 1 else if x = 8 then (if h - gp_p w t h = 0 then 1 else 0) else 0) := by
  have e : gp_z w t h x = gp_w w t h x := by
    unfold gp_z
    by_cases c : h - gp_p w t h = 0
    · rw [if_pos c]
    · rw [if_neg c]
      exact gw_rain_ne (fun j _ => by omega)
  rw [e]
  unfold gp_w
  by_cases c : h - gp_p w t h = 0
  · rw [if_pos c]
    by_cases c8 : x = 8
    · subst c8
      rw [gw_pat, ge_5 (by decide), if_neg (by decide), if_neg (by decide), if_neg (by decide), if_neg (by decide), if_neg (by decide), if_neg (by decide), if_pos rfl, if_pos c]
    · rw [gw_pne _ _ c8, ge_5 hx, if_neg c8]
  · rw [if_neg c, ge_5 hx, if_neg c]
    by_cases c8 : x = 8
    · subst c8
      rfl
    · rw [if_neg c8]
