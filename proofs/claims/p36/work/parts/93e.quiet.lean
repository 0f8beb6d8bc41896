/-! THE LAW: reads -/
/-- what is only asked leaves all that counts as it is -/
def cl_q (p : Nat) : Prop := p ≠ 8 ∧ (p < 15 ∨ 41 ≤ p) ∧ p < 177
def cl_Q (σ σ2 : sg_S) : Prop := ∀ p k, cl_q p → σ2 p k = σ p k
theorem cl_Qr (σ : sg_S) : cl_Q σ σ := fun _ _ _ => rfl
theorem cl_Qt {a b c : sg_S} (h : cl_Q a b) (h2 : cl_Q b c) : cl_Q a c := fun p k hp => (h2 p k hp).trans (h p k hp)
theorem cl_Qf {a b : sg_S} (h : gx_f1 a b) : cl_Q a b := fun p k hp => h p k hp.1 hp.2.1
theorem cl_Qw {a b : sg_S} (h : ∀ p k, p < 177 → b p k = a p k) : cl_Q a b := fun p k hp => h p k hp.2.2
theorem cl_Qu {w : Nat → Nat} {σ σ2 : sg_S} (h : cl_u w σ) (h8 : w 1 ≤ 8) (hx : cl_Q σ σ2) : cl_u w σ2 := cl_ux h h8 (fun p k h1 h2 => hx p k ⟨by omega, Or.inr (by omega), by omega⟩)
theorem cl_QS {w : Nat → Nat} {σ σ2 : sg_S} (h : cl_S w σ) (h8 : w 1 ≤ 8) (hx : cl_Q σ σ2) : cl_S w σ2 := cl_Sx h h8 ⟨hx 0 4 ⟨by decide, Or.inl (by decide), by decide⟩, fun p k h1 h2 => hx p k ⟨by omega, Or.inr h1, by omega⟩⟩
theorem mg_f1 {b : Nat → Bool} {σ σ2 : sg_S} (h : gx_f1 σ σ2) : gx_f1 σ (sg_mg b σ σ2) := fun p k h1 h2 => by
  cases hb : b p with
  | true => exact (sl_mgT hb).trans (h p k h1 h2)
  | false => exact sl_mgF hb
theorem mg_self {b : Nat → Bool} {σ : sg_S} : sg_mg b σ σ = σ := sl_mgE (fun _ _ _ => rfl)
theorem cl_Af {m c : Nat} {w : Nat → Nat} {σ σ2 : sg_S} (h : cl_A m w c σ) (hx : gx_f1 σ σ2) : cl_A m w c σ2 := cl_ext h (fun p k hp => hx p k (by unfold cl_rel at hp; omega) (by unfold cl_rel at hp; omega))
theorem k_upd (f : Nat → Int32) (k : Nat) (v : Int32) (j : Nat) : upd f k v j = if j = k then v else f j := by
  show sg_up (fun _ => f) 0 k v 0 j = _
  rw [nb_up]
  by_cases e : j = k
  · rw [if_pos ⟨rfl, e⟩, if_pos e]
  · rw [if_neg (fun c => e c.2), if_neg e]
theorem bx_min {x y : Nat} (hx : x < 2147483648) (hy : y < 2147483648) : (if nb x < nb y then nb x else nb y) = nb (min x y) := by
  by_cases e : x < y
  · rw [if_pos (nb_lt_t e hy), Nat.min_eq_left (by omega)]
  · rw [if_neg (nb_lt_f (by omega) hx), Nat.min_eq_right (by omega)]
