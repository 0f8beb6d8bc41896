/-! A CALCULUS: what a row of lets, binds, guards comes to; and what stays of both states -/
def wk_K {β : Type} (o : Option β) (R : β → Prop) : Prop := ∃ v, o = some v ∧ R v
theorem wk_let {α β : Type} {x : α} {f : α → Option β} {R : β → Prop} (h : ∀ y, y = x → wk_K (f y) R) : wk_K (sg_let x f) R := h x rfl
theorem wk_lets {α β : Type} {x : α} {f : α → Option β} {R : β → Prop} (h : wk_K (f x) R) : wk_K (sg_let x f) R := h
theorem wk_grd {β : Type} {b : Bool} {x : Option β} {R : β → Prop} (hb : b = true) (h : wk_K x R) : wk_K (sg_grd b x) R := by
  rw [nb_grd hb]
  exact h
theorem wk_bnd {α β : Type} {o : Option α} {v : α} {f : α → Option β} {R : β → Prop} (ho : o = some v) (h : wk_K (f v) R) : wk_K (sg_bnd o f) R := by
  rw [ho]
  exact h
theorem wk_bnd2 {α γ β : Type} {o : Option (α × γ)} {v : α} {w : γ} {f : α → γ → Option β} {R : β → Prop} (ho : o = some (v, w)) (h : wk_K (f v w) R) : wk_K (sg_bnd2 o f) R := by
  rw [ho]
  exact h
theorem wk_B {α β : Type} {o : Option α} {Q : α → Prop} {f : α → Option β} {R : β → Prop} (ho : wk_K o Q) (h : ∀ v, Q v → wk_K (f v) R) : wk_K (sg_bnd o f) R := by
  obtain ⟨v, e, q⟩ := ho
  rw [e]
  exact h v q
theorem wk_B2 {α γ β : Type} {o : Option (α × γ)} {Q : α × γ → Prop} {f : α → γ → Option β} {R : β → Prop} (ho : wk_K o Q) (h : ∀ v w, Q (v, w) → wk_K (f v w) R) : wk_K (sg_bnd2 o f) R := by
  obtain ⟨⟨v, w⟩, e, q⟩ := ho
  rw [e]
  exact h v w q
theorem wk_t {β : Type} {c : Prop} [Decidable c] {a b : Option β} {R : β → Prop} (hc : c) (h : wk_K a R) : wk_K (if c then a else b) R := by
  rw [if_pos hc]
  exact h
theorem wk_f {β : Type} {c : Prop} [Decidable c] {a b : Option β} {R : β → Prop} (hc : ¬ c) (h : wk_K b R) : wk_K (if c then a else b) R := by
  rw [if_neg hc]
  exact h
theorem wk_r {β : Type} {v : β} {R : β → Prop} (h : R v) : wk_K (some v) R := ⟨v, rfl, h⟩
theorem wk_m {β : Type} {o : Option β} {R R2 : β → Prop} (h : wk_K o R) (hi : ∀ v, R v → R2 v) : wk_K o R2 := by
  obtain ⟨v, e, q⟩ := h
  exact ⟨v, e, hi v q⟩
theorem wk_e {β : Type} {o o2 : Option β} {R : β → Prop} (e : o = o2) (h : wk_K o2 R) : wk_K o R := by
  rw [e]
  exact h
/-- numbers in another order -/
theorem gw_ppc (w : Nat → Nat) {i j d e : Nat} (h : i ≠ j) : gw_p (gw_p w i d) j e = gw_p (gw_p w j e) i d := by
  funext k
  unfold gw_p
  by_cases a : k = i
  · rw [if_pos a, if_pos a, if_neg (by omega), if_neg (by omega)]
  · by_cases b : k = j
    · rw [if_neg a, if_neg a, if_pos b]
    · rw [if_neg a, if_neg a, if_neg b]
theorem gq_e1up (o : Nat) (σ : sg_S) (p k : Nat) (v : Int32) : sg_e1 o (sg_up σ (o + p) k v) = sg_up (sg_e1 o σ) p k v := by
  funext q j
  show sg_up σ (o + p) k v (o + q) j = _
  rw [nb_up, nb_up]
  by_cases c : q = p ∧ j = k
  · rw [if_pos c, if_pos ⟨by omega, c.2⟩]
  · rw [if_neg c, if_neg (fun d => c ⟨by omega, d.2⟩)]
    try rfl
theorem gq_Ru {σ : sg_S} {w : Nat → Nat} (h : nb_R (sg_e1 1 σ) w) (h8 : w 1 ≤ 8) {q p k j : Nat} (hq : q = 1 + p) (hl : nb_lk p k j) (x : Nat) : nb_R (sg_e1 1 (sg_up σ q k (nb x))) (gw_u w j x) := by
  subst hq
  rw [gq_e1up]
  exact nb_Ru h h8 hl x
theorem gq_rd {σ : sg_S} {w : Nat → Nat} (h : nb_R (sg_e1 1 σ) w) {q p k j : Nat} (hq : q = 1 + p) (hl : nb_lk p k j) : σ q k = nb (w j) := by
  subst hq
  exact h.1.1 p k j hl
theorem gq_Rp {σ : sg_S} {w : Nat → Nat} (h : nb_R (sg_e1 1 σ) w) (h8 : w 1 ≤ 8) {q p k j : Nat} (d : Nat) (hq : q = 1 + p) (hl : nb_lk p k j) : nb_R (sg_e1 1 (sg_up σ q k (σ q k + nb d))) (gw_p w j d) := by
  rw [gq_rd h hq hl, nb_add, gw_pE]
  exact gq_Ru h h8 hq hl _
theorem gq_Rm {σ : sg_S} {w : Nat → Nat} (h : nb_R (sg_e1 1 σ) w) (h8 : w 1 ≤ 8) {q p k j d : Nat} (hq : q = 1 + p) (hl : nb_lk p k j) (hd : d ≤ w j) : nb_R (sg_e1 1 (sg_up σ q k (σ q k - nb d))) (gw_m w j d) := by
  rw [gq_rd h hq hl, nb_sub hd, gw_mE]
  exact gq_Ru h h8 hq hl _
theorem gq_Rb {σ : sg_S} {w : Nat → Nat} (h : nb_R (sg_e1 1 σ) w) (h8 : w 1 ≤ 8) : nb_R (sg_e1 1 (sg_up σ 13 2 (σ 13 2 + 4))) (gw_p w 9 1) := by
  have e : σ 13 2 = nb (4 * w 9) := h.1.2.2
  have e2 : nb (4 * w 9) + 4 = nb (4 * (w 9 + 1)) := (nb_add (4 * w 9) 4).trans (by rw [(by omega : 4 * w 9 + 4 = 4 * (w 9 + 1))])
  rw [e, e2, gw_pE]
  exact (gq_e1up 1 σ 12 2 _) ▸ nb_Rb h h8 (w 9 + 1)
/-- of the class all but the realm stays -/
def gq_P (σ σ2 : sg_S) : Prop := ∀ p, p = 0 ∨ 14 ≤ p → σ2 p = σ p
theorem gq_Prf (σ : sg_S) : gq_P σ σ := fun _ _ => rfl
theorem gq_Ptr {a b c : sg_S} (h : gq_P a b) (h2 : gq_P b c) : gq_P a c := fun p hp => (h2 p hp).trans (h p hp)
theorem gq_Cup {σ : sg_S} {p k : Nat} {v : Int32} (hp : 1 ≤ p ∧ p < 14) : ∀ q, q = 0 ∨ 14 ≤ q → sg_up σ p k v q = σ q := by
  intro q hq
  funext j
  rw [nb_up, if_neg (by omega)]
theorem gq_Pup {σ σ2 : sg_S} (h : gq_P σ σ2) {p k : Nat} {v : Int32} (hp : 1 ≤ p ∧ p < 14) : gq_P σ (sg_up σ2 p k v) := fun q hq => (gq_Cup hp q hq).trans (h q hq)
theorem gq_Pm1 {σ σ2 τ : sg_S} (h : gq_P σ σ2) {o n : Nat} (hp : 1 ≤ o ∧ o + n ≤ 14) : gq_P σ (sg_m1 o n σ2 τ) := fun q hq => by
  funext j
  rw [nb_m1, if_neg (by omega), h q hq]
/-- reasons alike -/
def gq_W (σ τ : sg_S) : Prop := σ 14 0 = τ 0 2 ∧ σ 14 1 = τ 0 3 ∧ σ 14 2 = τ 0 4 ∧ (τ 0 4 ≠ 0 → σ 14 3 = τ 0 5)
def gq_C (σ σ2 : sg_S) : Prop := ∀ p, p = 0 ∨ 15 ≤ p → σ2 p = σ p
def gq_F (τ τ2 : sg_S) : Prop := ∀ p k, p ≠ 1 → p ≠ 7 → (p = 0 → k = 1 ∨ (5 ≤ k ∧ k ≠ 15)) → τ2 p k = τ p k
def gq_O (m : Nat) (w : Nat → Nat) (σ τ : sg_S) (r : Int32) (σ2 τ2 : sg_S) : Prop := gq_W σ2 τ2 ∧ gq_C σ σ2 ∧ gq_F τ τ2 ∧ ((∃ (n : Nat) (w2 : Nat → Nat), r = nb n ∧ n < 100000 ∧ τ2 0 0 = 0 ∧ nb_R (sg_e1 1 σ2) w2 ∧ nb_V (τ2 1) w2 ∧ gi_I (m + 1) w2) ∨ ((r = -1 ∨ r = -2 ∨ r = -5) ∧ τ2 0 0 = r ∧ (r = -5 → τ2 0 2 ≠ 0) ∧ nb_R (sg_e1 1 σ2) w ∧ nb_V (τ2 1) w))
def gq_H (m : Nat) (w : Nat → Nat) (σ τ : sg_S) : Prop := nb_R (sg_e1 1 σ) w ∧ nb_V (τ 1) w ∧ gi_I m w ∧ gq_W σ τ ∧ τ 0 0 = 0 ∧ m < 9000 ∧ ∀ k, k < 12 → τ 6 k = sg_sun k
theorem gq_no {m : Nat} {w : Nat → Nat} {σ τ : sg_S} (h : gq_H m w σ τ) {r : Int32} (hr : r = -1 ∨ r = -2) : ∃ τ2, f_X8_fail r τ = some (r, τ2) ∧ gq_O m w σ τ r σ τ2 := by
  obtain ⟨hR, hV, hI, hW, h0, hm, h6⟩ := h
  refine ⟨sg_up τ 0 0 r, rfl, ⟨?_, ?_, ?_, ?_⟩, fun _ _ => rfl, fun p k h1 h7 h0 => ?_, Or.inr ⟨by rcases hr with e | e <;> simp [e], nb_upE _ _ _ _, fun c => ?_, hR, fun k hk => ?_⟩⟩
  · rw [nb_up, if_neg (by omega)]
    exact hW.1
  · rw [nb_up, if_neg (by omega)]
    exact hW.2.1
  · rw [nb_up, if_neg (by omega)]
    exact hW.2.2.1
  · rw [nb_up, if_neg (by omega), nb_up, if_neg (by omega)]
    exact hW.2.2.2
  · rw [nb_up, if_neg (by omega)]
  · exfalso
    rcases hr with e | e
    · exact absurd (e.symm.trans c) (by decide)
    · exact absurd (e.symm.trans c) (by decide)
  · rw [nb_up, if_neg (by omega)]
    exact hV k hk
theorem gq_refuse {m : Nat} {w : Nat → Nat} {σ τ : sg_S} (h : gq_H m w σ τ) (a d : Int32) (ha : a ≠ 0) : ∃ κ τ2, f_X4_keep a d (sg_e1 14 σ) = some (-5, κ) ∧ f_X8_refuses a d τ = some (-5, τ2) ∧ gq_O m w σ τ (-5) (sg_m1 14 1 σ κ) τ2 := by
  obtain ⟨hR, hV, hI, hW, h0, hm, h6⟩ := h
  refine ⟨_, _, rfl, rfl, ⟨?_, ?_, ?_, ?_⟩, fun p hp => ?_, fun p k h1 h7 h0 => ?_, Or.inr ⟨Or.inr (Or.inr rfl), ?_, fun _ => ?_, ?_, fun k hk => ?_⟩⟩
  · rw [nb_m1, if_pos (by omega)]
    rfl
  · rw [nb_m1, if_pos (by omega)]
    rfl
  · rw [nb_m1, if_pos (by omega)]
    rfl
  · intro c
    exact absurd rfl c
  · funext k
    rw [nb_m1, if_neg (by omega)]
  · show sg_up (sg_up (sg_up (sg_up τ 0 2 a) 0 3 d) 0 4 0) 0 0 (-5) p k = τ p k
    rw [nb_up, if_neg (by omega), nb_up, if_neg (by omega), nb_up, if_neg (by omega), nb_up, if_neg (by omega)]
  · show sg_up (sg_up (sg_up (sg_up τ 0 2 a) 0 3 d) 0 4 0) 0 0 (-5) 0 0 = -5
    rw [nb_upE]
  · exact ha
  · refine nb_Rx hR hI.2.1 (fun _ _ => rfl) (fun p k h1 _ _ => ?_)
    show σ (1 + p) k = sg_m1 14 1 σ _ (1 + p) k
    rw [nb_m1, if_neg (by omega)]
  · show sg_up (sg_up (sg_up (sg_up τ 0 2 a) 0 3 d) 0 4 0) 0 0 (-5) 1 k = nb (w k)
    rw [nb_up, if_neg (by omega), nb_up, if_neg (by omega), nb_up, if_neg (by omega), nb_up, if_neg (by omega)]
    exact hV k hk
/-- a change of the realm that both make -/
theorem gq_yes {m : Nat} {w w2 : Nat → Nat} {σ τ σ2 τ2 : sg_S} (h : gq_H m w σ τ) {n : Nat} (hn : n < 100000) (hR : nb_R (sg_e1 1 σ2) w2) (hV : nb_V (τ2 1) w2) (hI : gi_I (m + 1) w2) (hC : ∀ p, p = 0 ∨ 14 ≤ p → σ2 p = σ p) (hF : nb_F τ τ2) : gq_O m w σ τ (nb n) σ2 τ2 := by
  obtain ⟨_, _, _, hW, h0, hm, h6⟩ := h
  refine ⟨⟨?_, ?_, ?_, ?_⟩, fun p hp => hC p (by omega), fun p k h1 h7 h0 => hF p k h1 h7 (by omega), Or.inl ⟨n, w2, rfl, hn, ?_, hR, hV, hI⟩⟩
  · rw [hC 14 (by omega), hF 0 2 (by decide) (by decide) (by omega)]
    exact hW.1
  · rw [hC 14 (by omega), hF 0 3 (by decide) (by decide) (by omega)]
    exact hW.2.1
  · rw [hC 14 (by omega), hF 0 4 (by decide) (by decide) (by omega)]
    exact hW.2.2.1
  · rw [hC 14 (by omega), hF 0 4 (by decide) (by decide) (by omega), hF 0 5 (by decide) (by decide) (by omega)]
    exact hW.2.2.2
  · rw [hF 0 0 (by decide) (by decide) (by omega)]
    exact h0
def gq_S1 (w2 : Nat → Nat) (σ : sg_S) (n : Nat) (v : Int32 × sg_S) : Prop := v.1 = nb n ∧ nb_R (sg_e1 1 v.2) w2 ∧ gq_P σ v.2
def gq_S2 (w2 : Nat → Nat) (τ : sg_S) (n : Nat) (v : Int32 × sg_S) : Prop := v.1 = nb n ∧ nb_V (v.2 1) w2 ∧ nb_F τ v.2
def gq_A (m : Nat) (w : Nat → Nat) (σ τ : sg_S) (o o2 : Option (Int32 × sg_S)) : Prop := ∃ r σ2 τ2, o = some (r, σ2) ∧ o2 = some (r, τ2) ∧ gq_O m w σ τ r σ2 τ2
theorem gq_fin {m : Nat} {w w2 : Nat → Nat} {σ τ : sg_S} {o o2 : Option (Int32 × sg_S)} {n : Nat} (h : gq_H m w σ τ) (hn : n < 100000) (a : wk_K o (gq_S1 w2 σ n)) (b : wk_K o2 (gq_S2 w2 τ n)) (hI : gi_I (m + 1) w2) : gq_A m w σ τ o o2 := by
  obtain ⟨⟨r, σ2⟩, e1, a1, a2, a3⟩ := a
  obtain ⟨⟨r2, τ2⟩, e2, b1, b2, b3⟩ := b
  have a1' : r = nb n := a1
  have b1' : r2 = nb n := b1
  subst a1'
  subst b1'
  exact ⟨nb n, σ2, τ2, e1, e2, gq_yes h hn a2 b2 hI a3 b3⟩
/-- both say no: the answers of a refused command as both print it -/
theorem gq_ref {m : Nat} {w : Nat → Nat} {σ τ : sg_S} (h : gq_H m w σ τ) (a d : Int32) (ha : a ≠ 0) : gq_A m w σ τ (sg_bnd2 (f_X4_keep a d (sg_e1 14 σ)) (fun r τ1 => sg_let (sg_m1 14 1 σ τ1) (fun σ1 => some (r, σ1)))) (sg_bnd2 (f_X8_refuses a d τ) (fun r τ1 => some (r, τ1))) := by
  obtain ⟨κ, τ2, a1, a2, a3⟩ := gq_refuse h a d ha
  refine ⟨-5, _, τ2, ?_, ?_, a3⟩
  · rw [a1]
    rfl
  · rw [a2]
    rfl
theorem gq_bad {m : Nat} {w : Nat → Nat} {σ τ : sg_S} (h : gq_H m w σ τ) {r : Int32} (hr : r = -1 ∨ r = -2) : gq_A m w σ τ (some (r, σ)) (sg_bnd2 (f_X8_fail r τ) (fun r τ1 => some (r, τ1))) := by
  obtain ⟨τ2, a, b⟩ := gq_no h hr
  refine ⟨r, σ, τ2, rfl, ?_, b⟩
  rw [a]
  rfl
theorem gq_Ae {m : Nat} {w : Nat → Nat} {σ τ : sg_S} {o o2 p p2 : Option (Int32 × sg_S)} (e : o = p) (e2 : o2 = p2) (h : gq_A m w σ τ p p2) : gq_A m w σ τ o o2 := by
  rw [e, e2]
  exact h
