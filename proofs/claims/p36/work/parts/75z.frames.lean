/-! PURE: what a call leaves as it is -/
def fr_F (S : Nat → Prop) (σ0 σ : sg_S) : Prop := ∀ p k, S p → σ p k = σ0 p k
def fr_R (S : Nat → Prop) (σ0 : sg_S) (o : Option (Int32 × sg_S)) : Prop := ∀ r σ', o = some (r, σ') → fr_F S σ0 σ'
section FR
variable {S : Nat → Prop} {σ0 σ τ : sg_S}
theorem fr_m1 {o n : Nat} (h : fr_F S σ0 σ) (hS : ∀ p, S p → p < o ∨ o + n ≤ p) : fr_F S σ0 (sg_m1 o n σ τ) := by
  intro p k hp
  rw [nb_m1, if_neg (by have := hS p hp; omega)]
  exact h p k hp
theorem fr_m2 {o n o2 n2 : Nat} (h : fr_F S σ0 σ) (hS : ∀ p, S p → (p < o ∨ o + n ≤ p) ∧ (p < o2 ∨ o2 + n2 ≤ p)) : fr_F S σ0 (sg_m2 o n o2 n2 σ τ) := by
  intro p k hp
  rw [nb_m2, if_neg (by have := hS p hp; omega), if_neg (by have := hS p hp; omega)]
  exact h p k hp
theorem fr_up {q j : Nat} {v : Int32} (h : fr_F S σ0 σ) (hS : ∀ p, S p → p ≠ q) : fr_F S σ0 (sg_up σ q j v) := by
  intro p k hp
  rw [nb_up, if_neg (by have := hS p hp; omega)]
  exact h p k hp
theorem fr_some {r : Int32} (h : fr_F S σ0 σ) : fr_R S σ0 (some (r, σ)) := by
  intro r2 σ2 e
  cases e
  exact h
theorem fr_none : fr_R S σ0 none := fun _ _ e => by cases e
theorem fr_bnd {α : Type} {o : Option α} {f : α → Option (Int32 × sg_S)} (h : ∀ y, fr_R S σ0 (f y)) : fr_R S σ0 (sg_bnd o f) := by
  cases o with
  | none => exact fun _ _ e => by cases e
  | some y => exact h y
theorem fr_bnd2 {α β : Type} {o : Option (α × β)} {f : α → β → Option (Int32 × sg_S)} (h : ∀ y z, fr_R S σ0 (f y z)) : fr_R S σ0 (sg_bnd2 o f) := by
  cases o with
  | none => exact fun _ _ e => by cases e
  | some y => exact h y.1 y.2
theorem fr_let {α : Type} {x : α} {f : α → Option (Int32 × sg_S)} (h : fr_R S σ0 (f x)) : fr_R S σ0 (sg_let x f) := h
theorem fr_grd {b : Bool} {x : Option (Int32 × sg_S)} (h : fr_R S σ0 x) : fr_R S σ0 (sg_grd b x) := by
  cases b with
  | false => exact fun _ _ e => by cases e
  | true => exact h
theorem fr_ite {c : Prop} [Decidable c] {x y : Option (Int32 × sg_S)} (h : fr_R S σ0 x) (h2 : fr_R S σ0 y) : fr_R S σ0 (if c then x else y) := by
  by_cases hc : c
  · rw [if_pos hc]
    exact h
  · rw [if_neg hc]
    exact h2
theorem fr_id (σ : sg_S) : fr_F S σ σ := fun _ _ _ => rfl
end FR
def fs_ch (p : Nat) : Prop := (28 ≤ p ∧ p < 54) ∨ 160 ≤ p
def fs_rd (p : Nat) : Prop := (28 ≤ p ∧ p < 54) ∨ 177 ≤ p
def fs_un (p : Nat) : Prop := (14 ≤ p ∧ p < 54) ∨ 160 ≤ p
def fs_sv (p : Nat) : Prop := (14 ≤ p ∧ p < 41) ∨ 54 ≤ p
def fs_re (p : Nat) : Prop := (14 ≤ p ∧ p < 41) ∨ 55 ≤ p
