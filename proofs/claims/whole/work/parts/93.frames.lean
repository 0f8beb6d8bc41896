/-! PURE: what a call leaves as it is; and the states as the machine keeps them -/
def fr_F (S : Nat → Prop) (σ0 σ : sg_S) : Prop := ∀ p k, S p → σ p k = σ0 p k
def fr_R (S : Nat → Prop) (σ0 : sg_S) (o : Option (Int32 × sg_S)) : Prop := ∀ r σ', o = some (r, σ') → fr_F S σ0 σ'
section FR
variable {S : Nat → Prop} {σ0 σ τ : sg_S}
theorem fr_m1 {o n : Nat} (h : fr_F S σ0 σ) (hS : ∀ p, S p → p < o ∨ o + n ≤ p) : fr_F S σ0 (sg_m1 o n σ τ) := by
  intro p k hp
  rw [nb_m1, if_neg (by have := hS p hp; omega)]
  exact h p k hp
theorem fr_m2 {o n o2 n2 : Nat} (h : fr_F S σ0 σ) (hS : ∀ p, S p → (p < o ∨ o + n ≤ p) ∧ (p < o2 ∨ o2 + n2 ≤ p)) : fr_F S σ0 (sg_m2 o n o2 n2 σ τ) := by
  intro p k hp
  rw [nb_m2, if_neg (by have := hS p hp; omega), if_neg (by have := hS p hp; omega)]
  exact h p k hp
theorem fr_up {q j : Nat} {v : Int32} (h : fr_F S σ0 σ) (hS : ∀ p, S p → p ≠ q) : fr_F S σ0 (sg_up σ q j v) := by
  intro p k hp
  rw [nb_up, if_neg (by have := hS p hp; omega)]
  exact h p k hp
theorem fr_some {r : Int32} (h : fr_F S σ0 σ) : fr_R S σ0 (some (r, σ)) := by
  intro r2 σ2 e
  cases e
  exact h
theorem fr_none : fr_R S σ0 none := fun _ _ e => by cases e
theorem fr_bnd {α : Type} {o : Option α} {f : α → Option (Int32 × sg_S)} (h : ∀ y, fr_R S σ0 (f y)) : fr_R S σ0 (sg_bnd o f) := by
  cases o with
  | none => exact fun _ _ e => by cases e
  | some y => exact h y
theorem fr_bnd2 {α β : Type} {o : Option (α × β)} {f : α → β → Option (Int32 × sg_S)} (h : ∀ y z, fr_R S σ0 (f y z)) : fr_R S σ0 (sg_bnd2 o f) := by
  cases o with
  | none => exact fun _ _ e => by cases e
  | some y => exact h y.1 y.2
theorem fr_let {α : Type} {x : α} {f : α → Option (Int32 × sg_S)} (h : fr_R S σ0 (f x)) : fr_R S σ0 (sg_let x f) := h
theorem fr_grd {b : Bool} {x : Option (Int32 × sg_S)} (h : fr_R S σ0 x) : fr_R S σ0 (sg_grd b x) := by
  cases b with
  | false => exact fun _ _ e => by cases e
  | true => exact h
theorem fr_ite {c : Prop} [Decidable c] {x y : Option (Int32 × sg_S)} (h : fr_R S σ0 x) (h2 : fr_R S σ0 y) : fr_R S σ0 (if c then x else y) := by
  by_cases hc : c
  · rw [if_pos hc]
    exact h
  · rw [if_neg hc]
    exact h2
theorem fr_id (σ : sg_S) : fr_F S σ σ := fun _ _ _ => rfl
end FR
def fs_ch (p : Nat) : Prop := (28 ≤ p ∧ p < 54) ∨ 160 ≤ p
def fs_rd (p : Nat) : Prop := (28 ≤ p ∧ p < 54) ∨ 177 ≤ p
def fs_un (p : Nat) : Prop := (14 ≤ p ∧ p < 54) ∨ 160 ≤ p
def fs_sv (p : Nat) : Prop := (14 ≤ p ∧ p < 41) ∨ 54 ≤ p
def fs_re (p : Nat) : Prop := (14 ≤ p ∧ p < 41) ∨ 55 ≤ p
theorem fr_change (kd x y z : Int32) (σ : sg_S) : fr_R fs_ch σ (f_X7_change kd x y z σ) := by
  rw [f_X7_change]
  refine fr_bnd fun τ1 => fr_let (fr_bnd2 fun r6 τ4 => fr_let ?_)
  have h : fr_F fs_ch σ (sg_m1 0 15 (sg_m2 15 13 1 13 σ τ1) τ4) := fr_m1 (fr_m2 (fr_id σ) (fun p hp => by unfold fs_ch at hp; omega)) (fun p hp => by unfold fs_ch at hp; omega)
  exact fr_ite (fr_bnd fun τ8 => fr_let (fr_some (fr_m2 h (fun p hp => by unfold fs_ch at hp; omega)))) (fr_some h)
theorem fr_ch2 (kd x y z : Int32) (σ : sg_S) : fr_R fs_ch σ (sg_bnd2 (f_X7_change kd x y z σ) (fun r t => some (r, t))) := by
  rw [gj_id]
  exact fr_change kd x y z σ
theorem fr_readL (σ0 : sg_S) : ∀ (n : Nat) (z : Int32) (σ : sg_S), fr_F fs_rd σ0 σ → fr_R fs_rd σ0 (f_X7_read_L50 n z σ) := by
  intro n
  induction n with
  | zero =>
    intro z σ _
    rw [f_X7_read_L50]
    exact fr_none
  | succ n ih =>
    intro z σ h
    rw [f_X7_read_L50]
    refine fr_ite (fr_grd (fr_let (fr_bnd2 fun r18 τ16 => fr_let ?_))) ?_
    · have h2 : fr_F fs_rd σ0 (sg_m1 0 15 σ τ16) := fr_m1 h (fun p hp => by unfold fs_rd at hp; omega)
      refine fr_ite (fr_bnd fun τ20 => fr_let ?_) (ih _ _ h2)
      have h3 : fr_F fs_rd σ0 (sg_m2 1 13 15 13 (sg_m1 0 15 σ τ16) τ20) := fr_m2 h2 (fun p hp => by unfold fs_rd at hp; omega)
      exact fr_ite (fr_bnd2 fun r29 τ27 => fr_let (fr_some (fr_m1 h3 (fun p hp => by unfold fs_rd at hp; omega)))) (fr_bnd2 fun r29 τ27 => fr_let (fr_some (fr_m1 h3 (fun p hp => by unfold fs_rd at hp; omega))))
    · exact fr_bnd fun τ11 => fr_let (fr_some (fr_m2 h (fun p hp => by unfold fs_rd at hp; omega)))
theorem fr_read (σ : sg_S) : fr_R fs_rd σ (f_X7_read σ) := by
  rw [f_X7_read]
  refine fr_bnd2 fun r3 τ1 => fr_let (fr_bnd fun τ5 => fr_let ?_)
  have h : fr_F fs_rd σ (sg_m1 161 2 (sg_m1 160 17 σ τ1) τ5) := fr_m1 (fr_m1 (fr_id σ) (fun p hp => by unfold fs_rd at hp; omega)) (fun p hp => by unfold fs_rd at hp; omega)
  refine fr_ite (fr_let (fr_some (fr_up h (fun p hp => by unfold fs_rd at hp; omega)))) (fr_bnd fun τ8 => fr_let ?_)
  exact fr_readL σ 1000 0 _ (fr_m2 h (fun p hp => by unfold fs_rd at hp; omega))
theorem fr_undo (σ : sg_S) : fr_R fs_un σ (f_X7_undo σ) := by
  rw [f_X7_undo]
  exact fr_ite (fr_some (fr_id σ)) (fr_bnd fun τ1 => fr_let (fr_some (fr_m2 (fr_id σ) (fun p hp => by unfold fs_un at hp; omega))))
theorem fr_save (σ : sg_S) : fr_R fs_sv σ (f_X7_save σ) := by
  rw [f_X7_save]
  exact fr_bnd fun τ1 => fr_let (fr_let (fr_some (fr_up (fr_m2 (fr_id σ) (fun p hp => by unfold fs_sv at hp; omega)) (fun p hp => by unfold fs_sv at hp; omega))))
theorem fr_restore (σ : sg_S) : fr_R fs_re σ (f_X7_restore σ) := by
  rw [f_X7_restore]
  exact fr_ite (fr_some (fr_id σ)) (fr_bnd fun τ1 => fr_let (fr_let (fr_some (fr_up (fr_m2 (fr_id σ) (fun p hp => by unfold fs_re at hp; omega)) (fun p hp => by unfold fs_re at hp; omega)))))
/-- the cells that a call's world has -/
def kb_TN (q : Nat) : Bool := Nat.ble q 13
def kb_TNR (q : Nat) : Bool := Nat.ble q 13 || (Nat.ble 28 q && Nat.ble q 40)
def kb_TNLBH (q : Nat) : Bool := Nat.ble q 27 || (Nat.ble 54 q && Nat.ble q 159)
def kb_TNLBHX (q : Nat) : Bool := Nat.ble q 27 || (Nat.ble 54 q && Nat.ble q 176)
def kb_TNH (q : Nat) : Bool := Nat.ble q 13 || (Nat.ble 54 q && Nat.ble q 159)
def kb_TNS (q : Nat) : Bool := Nat.ble q 13 || (Nat.ble 41 q && Nat.ble q 53)
def kb_TNSh (q : Nat) : Bool := Nat.ble q 13 || (Nat.ble 41 q && Nat.ble q 54)
def kb_TNI (q : Nat) : Bool := Nat.ble q 13 || (Nat.ble 177 q && Nat.ble q 178)
def kb_Tx (q : Nat) : Bool := Nat.ble q 0 || (Nat.ble 160 q && Nat.ble q 162)
def gj_rel (p : Nat) : Prop := (p < 15 ∧ p ≠ 8) ∨ (41 ≤ p ∧ p < 160) ∨ p = 161 ∨ p = 162 ∨ p = 177 ∨ p = 178
theorem gj_ext {m : Nat} {σ τ σ2 : sg_S} (h : gx_G m σ τ) (he : ∀ p k, gj_rel p → σ2 p k = σ p k) : gx_G m σ2 τ :=
  ⟨gx_x2 h.1 (fun p k h8 hp => he p k (by unfold gj_rel; omega)) (fun _ _ _ => rfl), gj_T h.2.1 (fun p k hp => he p k (by unfold gj_rel; omega)) rfl (fun _ => rfl), gj_L h.2.2.1 (fun p k hp => he p k (by unfold gj_rel; omega)) rfl (fun _ => rfl), h.2.2.2⟩
/-- a call alike in both, over the state that the machine has behind it -/
def gk_R (b : Nat → Bool) (m : Nat) (σ : sg_S) (o o2 : Option (Int32 × sg_S)) : Prop := ∃ r σ2 τ2, o = some (r, σ2) ∧ o2 = some (r, τ2) ∧ gx_G (m + 12) (sg_mg b σ σ2) τ2
def gk_R1 (b : Nat → Bool) (m : Nat) (σ τ : sg_S) (o : Option (Int32 × sg_S)) (o2 : Option Int32) : Prop := ∃ r σ2, o = some (r, σ2) ∧ o2 = some r ∧ gx_G (m + 12) (sg_mg b σ σ2) τ
theorem gk_mg {b : Nat → Bool} {m : Nat} {S : Nat → Prop} {σ σ2 τ : sg_S} (h : gx_G m σ2 τ) (hF : fr_F S σ σ2) (hb : ∀ p, gj_rel p → b p = false → S p) : gx_G m (sg_mg b σ σ2) τ := by
  refine gj_ext h (fun p k hp => ?_)
  unfold sg_mg
  cases hbp : b p with
  | true => rfl
  | false => exact (hF p k (hb p hp hbp)).symm
theorem gk_of {b : Nat → Bool} {m : Nat} {S : Nat → Prop} {σ : sg_S} {o o2 : Option (Int32 × sg_S)} (h : gj_R m o o2) (hF : fr_R S σ o) (hb : ∀ p, gj_rel p → b p = false → S p) : gk_R b m σ o o2 := by
  obtain ⟨r, σ2, τ2, a, c, d⟩ := h
  exact ⟨r, σ2, τ2, a, c, gk_mg d (hF r σ2 a) hb⟩
theorem kb_no {q a b c : Nat} (h : (Nat.ble q a || (Nat.ble b q && Nat.ble q c)) = false) : a < q ∧ (q < b ∨ c < q) := by
  have k : ∀ x y : Nat, Nat.ble x y = false → y < x := fun x y e => by
    rcases Nat.lt_or_ge y x with g | g
    · exact g
    · rw [Nat.ble_eq_true_of_le g] at e
      cases e
  rw [Bool.or_eq_false_iff, Bool.and_eq_false_iff] at h
  exact ⟨k _ _ h.1, h.2.imp (k _ _) (k _ _)⟩
theorem kb_no1 {q a : Nat} (h : Nat.ble q a = false) : a < q := by
  rcases Nat.lt_or_ge a q with g | g
  · exact g
  · rw [Nat.ble_eq_true_of_le g] at h
    cases h
def fs_f1 (p : Nat) : Prop := p ≠ 8 ∧ (p < 15 ∨ 41 ≤ p)
theorem kb_ch : ∀ p, gj_rel p → kb_TNLBH p = false → fs_ch p := fun p h hb => by
  have := kb_no hb
  unfold gj_rel at h
  unfold fs_ch
  omega
theorem kb_rd : ∀ p, gj_rel p → kb_TNLBHX p = false → fs_rd p := fun p h hb => by
  have := kb_no hb
  unfold gj_rel at h
  unfold fs_rd
  omega
theorem kb_un : ∀ p, gj_rel p → kb_TNH p = false → fs_un p := fun p h hb => by
  have := kb_no hb
  unfold gj_rel at h
  unfold fs_un
  omega
theorem kb_sv : ∀ p, gj_rel p → kb_TNS p = false → fs_sv p := fun p h hb => by
  have := kb_no hb
  unfold gj_rel at h
  unfold fs_sv
  omega
theorem kb_re : ∀ p, gj_rel p → kb_TNSh p = false → fs_re p := fun p h hb => by
  have := kb_no hb
  unfold gj_rel at h
  unfold fs_re
  omega
theorem kb_f1 : ∀ p, gj_rel p → kb_TN p = false → fs_f1 p := fun p h hb => by
  have := kb_no1 hb
  unfold gj_rel at h
  unfold fs_f1
  omega
theorem kb_fR : ∀ p, gj_rel p → kb_TNR p = false → fs_f1 p := fun p h hb => by
  have := kb_no hb
  unfold gj_rel at h
  unfold fs_f1
  omega
theorem kb_W : ∀ p, gj_rel p → kb_TNI p = false → p < 177 := fun p h hb => by
  have := kb_no hb
  unfold gj_rel at h
  omega
theorem kb_X : ∀ p, gj_rel p → kb_Tx p = false → p ≠ 161 ∧ p ≠ 162 := fun p h hb => by
  have := kb_no hb
  unfold gj_rel at h
  omega
section GK
variable {m : Nat} {σ τ : sg_S}
theorem gk_treaty (h : gx_G m σ τ) (hm : m < 8800) (x y z : Int32) : gk_R kb_TNLBH m σ (f_X7_treaty x y z σ) (f_X8_treaty x y z τ) := gk_of (gj_treaty h hm x y z) (by rw [f_X7_treaty]; exact fr_ite (fr_ch2 1 x y 0 σ) (fr_ch2 0 x y 0 σ)) kb_ch
theorem gk_credit (h : gx_G m σ τ) (hm : m < 8800) (x y z : Int32) : gk_R kb_TNLBH m σ (f_X7_credit x y z σ) (f_X8_credit x y z τ) := gk_of (gj_credit h hm x y z) (fr_ch2 2 x y z σ) kb_ch
theorem gk_repay (h : gx_G m σ τ) (hm : m < 8800) (x : Int32) : gk_R kb_TNLBH m σ (f_X7_repay x σ) (f_X8_repay x τ) := gk_of (gj_repay h hm x) (fr_ch2 3 x 0 0 σ) kb_ch
theorem gk_rain (h : gx_G m σ τ) (hm : m < 8800) (x y : Int32) : gk_R kb_TNLBH m σ (f_X7_rain x y σ) (f_X8_rain x y τ) := gk_of (gj_rain h hm x y) (fr_ch2 4 x y 0 σ) kb_ch
theorem gk_bail (h : gx_G m σ τ) (hm : m < 8800) (x y : Int32) : gk_R kb_TNLBH m σ (f_X7_bail x y σ) (f_X8_bail x y τ) := gk_of (gj_bail h hm x y) (fr_ch2 5 x y 0 σ) kb_ch
theorem gk_buy (h : gx_G m σ τ) (hm : m < 8800) (x : Int32) : gk_R kb_TNLBH m σ (f_X7_buy x σ) (f_X8_buy x τ) := gk_of (gj_buy h hm x) (fr_ch2 6 x 0 0 σ) kb_ch
theorem gk_month (h : gx_G m σ τ) (hm : m < 8800) : gk_R kb_TNLBH m σ (f_X7_month σ) (f_X8_month τ) := gk_of (gj_month h hm) (fr_ch2 7 0 0 0 σ) kb_ch
theorem gk_f1 {b : Nat → Bool} {σ2 : sg_S} {r : Int32} {o : Option (Int32 × sg_S)} (a : o = some (r, σ2)) (c : gx_f1 σ σ2) : fr_R fs_f1 σ o := by
  intro r3 σ3 e
  rw [a] at e
  cases e
  exact fun p k hp => c p k hp.1 hp.2
theorem gk_drizzle (h : gx_G m σ τ) (x y z : Int32) : gk_R kb_TN m σ (f_X7_drizzle x y z σ) (f_X8_drizzle x y z τ) := by
  obtain ⟨r, σ2, τ2, a, b, c, d⟩ := gz_drizzle h.1 x y z
  exact gk_of (gj_drizzle h x y z) (gk_f1 (b := kb_TN) a c) kb_f1
theorem gk_would (h : gx_G m σ τ) (hm : m < 8800) (x y z : Int32) : gk_R kb_TNR m σ (f_X7_would x y z σ) (f_X8_would x y z τ) := by
  obtain ⟨r, σ2, τ2, a, b, c, d⟩ := gz_would h.1 (by omega) x y z
  exact gk_of (gj_would h hm x y z) (gk_f1 (b := kb_TN) a c) kb_fR
theorem gk_most (h : gx_G m σ τ) (hm : m < 8800) (x y : Int32) : gk_R kb_TNR m σ (f_X7_most x y σ) (f_X8_most x y τ) := by
  obtain ⟨r, σ2, τ2, a, b, c, d⟩ := gz_most h.1 (by omega) x y
  exact gk_of (gj_most h hm x y) (gk_f1 (b := kb_TN) a c) kb_fR
theorem gk_isCounted (h : gx_G m σ τ) : gk_R1 kb_TN m σ τ (f_X7_isCounted σ) (f_X8_isCounted τ) := by
  obtain ⟨r, σ2, a, b, c⟩ := ga_isCounted h.1
  exact ⟨r, σ2, a, b, gk_mg (gj_mono (gj_f h c (gx_f2r τ)) (by omega)) (gk_f1 (b := kb_TN) a c r σ2 a) kb_f1⟩
theorem gk_write (h : gx_G m σ τ) (x : Int32) : gk_R kb_TNI m σ (f_X7_write x σ) (f_X8_write x τ) := by
  obtain ⟨r, σ2, τ2, a, b, c, d⟩ := gl_write h.1 h.2.2.1 x
  exact ⟨r, σ2, τ2, a, b, gk_mg (S := fun p => p < 177) (gj_mono (gj_W h c d) (by omega)) (fun p k hp => d.1 p k hp) kb_W⟩
theorem gk_writeCredits (h : gx_G m σ τ) (hm : m < 8800) : gk_R kb_TNI m σ (f_X7_writeCredits σ) (f_X8_writeCredits τ) := by
  obtain ⟨r, σ2, τ2, a, b, c, d⟩ := gl_writeCredits h.1 (by omega) h.2.2.1
  exact ⟨r, σ2, τ2, a, b, gk_mg (S := fun p => p < 177) (gj_mono (gj_W h c d) (by omega)) (fun p k hp => d.1 p k hp) kb_W⟩
theorem gk_append (h : gx_G m σ τ) (x : Int32) : gk_R kb_Tx m σ (f_X7_append x σ) (f_X8_append x τ) := by
  obtain ⟨r, σ2, τ2, a, b, c, d⟩ := gl_append h.2.1 x
  exact ⟨r, σ2, τ2, a, b, gk_mg (S := fun p => p ≠ 161 ∧ p ≠ 162) (gj_mono (gj_X h c d) (by omega)) (fun p k hp => d.1 p k hp.1 hp.2) kb_X⟩
theorem gk_read (h : gx_G m σ τ) (hm : m < 8800) : gk_R kb_TNLBHX m σ (f_X7_read σ) (f_X8_read τ) := gk_of (gj_read h hm) (fr_read σ) kb_rd
theorem gk_undo (h : gx_G m σ τ) : gk_R kb_TNH m σ (f_X7_undo σ) (f_X8_undo τ) := gk_of (gj_undo h) (fr_undo σ) kb_un
theorem gk_save (h : gx_G m σ τ) : gk_R kb_TNS m σ (f_X7_save σ) (f_X8_save τ) := gk_of (gj_save h) (fr_save σ) kb_sv
theorem gk_restore (h : gx_G m σ τ) : gk_R kb_TNSh m σ (f_X7_restore σ) (f_X8_restore τ) := gk_of (gj_restore h) (fr_restore σ) kb_re
end GK
