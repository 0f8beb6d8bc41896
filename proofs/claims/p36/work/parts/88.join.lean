/-! PURE, JOINED: every public call alike in both, over one invariant; and it holds at the start -/
def gx_G (m : Nat) (σ τ : sg_S) : Prop := gx_A m σ τ ∧ gx_T σ τ ∧ gx_L σ τ ∧ pr_C τ
/-- a call whose answer and states are alike -/
def gj_R (m : Nat) (o o2 : Option (Int32 × sg_S)) : Prop := ∃ r σ2 τ2, o = some (r, σ2) ∧ o2 = some (r, τ2) ∧ gx_G (m + 12) σ2 τ2
def gj_R1 (m : Nat) (τ : sg_S) (o : Option (Int32 × sg_S)) (o2 : Option Int32) : Prop := ∃ r σ2, o = some (r, σ2) ∧ o2 = some r ∧ gx_G (m + 12) σ2 τ
def gj_R2 (m : Nat) (σ : sg_S) (o : Option Int32) (o2 : Option (Int32 × sg_S)) : Prop := ∃ r τ2, o = some r ∧ o2 = some (r, τ2) ∧ gx_G (m + 12) σ τ2
def gj_R0 (m : Nat) (σ τ : sg_S) (o o2 : Option Int32) : Prop := ∃ r, o = some r ∧ o2 = some r ∧ gx_G (m + 12) σ τ
theorem gj_T {σ τ σ2 τ2 : sg_S} (h : gx_T σ τ) (h1 : ∀ p k, p = 161 ∨ p = 162 → σ2 p k = σ p k) (h2 : τ2 0 21 = τ 0 21) (h3 : ∀ k, τ2 8 k = τ 8 k) : gx_T σ2 τ2 := by
  obtain ⟨n, f, a, b, c, d, e⟩ := h
  exact ⟨n, f, a, qb_x b (fun p k hp => h1 (161 + p) k (by omega)), h2.trans c, fun k hk => (h3 k).trans (d k hk), e⟩
theorem gj_L {σ τ σ2 τ2 : sg_S} (h : gx_L σ τ) (h1 : ∀ p k, p = 177 ∨ p = 178 → σ2 p k = σ p k) (h2 : τ2 0 24 = τ 0 24) (h3 : ∀ k, τ2 9 k = τ 9 k) : gx_L σ2 τ2 := by
  obtain ⟨n, f, a, b, c, d⟩ := h
  exact ⟨n, f, a, qb_x b (fun p k hp => h1 (177 + p) k (by omega)), h2.trans c, fun k hk => (h3 k).trans (d k hk)⟩
theorem gj_C {τ τ2 : sg_S} (h : pr_C τ) (h1 : ∀ q k, q = 11 ∨ q = 12 → τ2 q k = τ q k) : pr_C τ2 :=
  ⟨fun k hk => (h1 11 k (Or.inl rfl)).trans (h.1 k hk), fun k hk => (h1 12 k (Or.inr rfl)).trans (h.2 k hk)⟩
theorem gj_mono {m m2 : Nat} {σ τ : sg_S} (h : gx_G m σ τ) (hm : m ≤ m2) : gx_G m2 σ τ := ⟨gx_mono h.1 hm, h.2⟩
theorem gj_U {m m2 : Nat} {σ τ σ2 τ2 : sg_S} (h : gx_G m σ τ) (hA : gx_A m2 σ2 τ2) (hU : gx_U σ τ σ2 τ2) : gx_G m2 σ2 τ2 :=
  ⟨hA, gj_T h.2.1 (fun p k hp => hU.1 p k (by omega)) hU.2.2.1 (fun k => hU.2.1 8 k (by omega) (by omega)), gj_L h.2.2.1 (fun p k hp => hU.1 p k (by omega)) hU.2.2.2 (fun k => hU.2.1 9 k (by omega) (by omega)), gj_C h.2.2.2 (fun q k hq => hU.2.1 q k (by omega) (by omega))⟩
theorem gj_f {m : Nat} {σ τ σ2 τ2 : sg_S} (h : gx_G m σ τ) (h1 : gx_f1 σ σ2) (h2 : gx_f2 τ τ2) : gx_G m σ2 τ2 :=
  ⟨gx_x h.1 h1 h2, gj_T h.2.1 (fun p k hp => h1 p k (by omega) (by omega)) (h2 0 21 (by omega) (by omega) (by omega) (by omega) (by omega) (by omega)) (fun k => h2 8 k (by omega) (by omega) (by omega) (by omega) (by omega) (by omega)), gj_L h.2.2.1 (fun p k hp => h1 p k (by omega) (by omega)) (h2 0 24 (by omega) (by omega) (by omega) (by omega) (by omega) (by omega)) (fun k => h2 9 k (by omega) (by omega) (by omega) (by omega) (by omega) (by omega)), gj_C h.2.2.2 (fun q k hq => h2 q k (by omega) (by omega) (by omega) (by omega) (by omega) (by omega))⟩
theorem gj_W {m : Nat} {σ τ σ2 τ2 : sg_S} (h : gx_G m σ τ) (hL : gx_L σ2 τ2) (hW : gx_W σ τ σ2 τ2) : gx_G m σ2 τ2 :=
  ⟨gx_x2 h.1 (fun p k _ hp => hW.1 p k (by omega)) (fun q k hq => hW.2 q k (by omega) (by omega)), gj_T h.2.1 (fun p k hp => hW.1 p k (by omega)) (hW.2 0 21 (by omega) (by omega)) (fun k => hW.2 8 k (by omega) (by omega)), hL, gj_C h.2.2.2 (fun q k hq => hW.2 q k (by omega) (by omega))⟩
theorem gj_X {m : Nat} {σ τ σ2 τ2 : sg_S} (h : gx_G m σ τ) (hT : gx_T σ2 τ2) (hX : gx_X σ τ σ2 τ2) : gx_G m σ2 τ2 :=
  ⟨gx_x2 h.1 (fun p k _ hp => hX.1 p k (by omega) (by omega)) (fun q k hq => hX.2 q k (by omega) (by omega)), hT, gj_L h.2.2.1 (fun p k hp => hX.1 p k (by omega) (by omega)) (hX.2 0 24 (by omega) (by omega)) (fun k => hX.2 9 k (by omega) (by omega)), gj_C h.2.2.2 (fun q k hq => hX.2 q k (by omega) (by omega))⟩
theorem gj_id (o : Option (Int32 × sg_S)) : sg_bnd2 o (fun r t => some (r, t)) = o := by
  cases o with
  | none => rfl
  | some x => rfl
theorem gj_ch {m : Nat} {σ τ : sg_S} (h : gx_G m σ τ) (hm : m < 8800) {kd : Int32} {k : Nat} (hk : k < 8) (ek : kd = nb k) {x y z : Int32} {g : sg_S → Option (Int32 × sg_S)} (hg : ∀ τ : sg_S, f_X8_does (nb k) x y z τ = g τ) : gj_R m (sg_bnd2 (f_X7_change kd x y z σ) (fun r t => some (r, t))) (sg_bnd (f_X8_begins τ) (fun τ1 => sg_bnd2 (g τ1) (fun r5 τ3 => sg_bnd2 (f_X8_ends r5 τ3) (fun r8 τ6 => some (r8, τ6))))) := by
  subst ek
  obtain ⟨r, σ2, τ2, a, b, c, d⟩ := gx_change h.1 (by omega) (kd := nb k) (x := x) (y := y) (z := z) (g := g) (fun w σ τ hH => by rw [← hg τ]; exact gq_do hH hk x y z)
  exact ⟨r, σ2, τ2, by rw [a]; rfl, b, gj_mono (gj_U h c d) (by omega)⟩
section GJ
variable {m : Nat} {σ τ : sg_S}
theorem gj_treaty (h : gx_G m σ τ) (hm : m < 8800) (x y z : Int32) : gj_R m (f_X7_treaty x y z σ) (f_X8_treaty x y z τ) := by
  rw [f_X7_treaty, f_X8_treaty]
  by_cases hz : z = 0
  · rw [if_pos hz]
    have e : gj_R m (sg_bnd2 (f_X7_change 1 x y 0 σ) (fun r t => some (r, t))) (sg_bnd (f_X8_begins τ) (fun τ1 => sg_bnd2 (f_X8_treats x y 0 τ1) (fun r5 τ3 => sg_bnd2 (f_X8_ends r5 τ3) (fun r8 τ6 => some (r8, τ6))))) := gj_ch h hm (k := 1) (by omega) rfl (g := fun τ => f_X8_treats x y 0 τ) (fun τ => by rw [f_X8_does]; exact gj_id _)
    have e2 : (fun τ1 => (if z = 0 then sg_bnd2 (f_X8_treats x y 0 τ1) (fun r5 τ3 => sg_bnd2 (f_X8_ends r5 τ3) (fun r8 τ6 => some (r8, τ6))) else sg_bnd2 (f_X8_treats x y 1 τ1) (fun r11 τ9 => sg_bnd2 (f_X8_ends r11 τ9) (fun r14 τ12 => some (r14, τ12))))) = (fun τ1 => sg_bnd2 (f_X8_treats x y 0 τ1) (fun r5 τ3 => sg_bnd2 (f_X8_ends r5 τ3) (fun r8 τ6 => some (r8, τ6)))) := funext fun τ1 => if_pos hz
    rw [e2]
    exact e
  · rw [if_neg hz]
    have e : gj_R m (sg_bnd2 (f_X7_change 0 x y 0 σ) (fun r t => some (r, t))) (sg_bnd (f_X8_begins τ) (fun τ1 => sg_bnd2 (f_X8_treats x y 1 τ1) (fun r5 τ3 => sg_bnd2 (f_X8_ends r5 τ3) (fun r8 τ6 => some (r8, τ6))))) := gj_ch h hm (k := 0) (by omega) rfl (g := fun τ => f_X8_treats x y 1 τ) (fun τ => by rw [f_X8_does]; exact gj_id _)
    have e2 : (fun τ1 => (if z = 0 then sg_bnd2 (f_X8_treats x y 0 τ1) (fun r5 τ3 => sg_bnd2 (f_X8_ends r5 τ3) (fun r8 τ6 => some (r8, τ6))) else sg_bnd2 (f_X8_treats x y 1 τ1) (fun r11 τ9 => sg_bnd2 (f_X8_ends r11 τ9) (fun r14 τ12 => some (r14, τ12))))) = (fun τ1 => sg_bnd2 (f_X8_treats x y 1 τ1) (fun r11 τ9 => sg_bnd2 (f_X8_ends r11 τ9) (fun r14 τ12 => some (r14, τ12)))) := funext fun τ1 => if_neg hz
    rw [e2]
    exact e
theorem gj_credit (h : gx_G m σ τ) (hm : m < 8800) (x y z : Int32) : gj_R m (f_X7_credit x y z σ) (f_X8_credit x y z τ) := gj_ch h hm (k := 2) (by omega) rfl (g := fun τ => f_X8_credits x y z τ) (fun τ => by rw [f_X8_does]; exact gj_id _)
theorem gj_repay (h : gx_G m σ τ) (hm : m < 8800) (x : Int32) : gj_R m (f_X7_repay x σ) (f_X8_repay x τ) := gj_ch h hm (k := 3) (by omega) rfl (g := fun τ => f_X8_repays x τ) (fun τ => by rw [f_X8_does]; exact gj_id _)
theorem gj_rain (h : gx_G m σ τ) (hm : m < 8800) (x y : Int32) : gj_R m (f_X7_rain x y σ) (f_X8_rain x y τ) := gj_ch h hm (k := 4) (by omega) rfl (g := fun τ => f_X8_letsRain x y τ) (fun τ => by rw [f_X8_does]; exact gj_id _)
theorem gj_bail (h : gx_G m σ τ) (hm : m < 8800) (x y : Int32) : gj_R m (f_X7_bail x y σ) (f_X8_bail x y τ) := gj_ch h hm (k := 5) (by omega) rfl (g := fun τ => f_X8_bails x y τ) (fun τ => by rw [f_X8_does]; exact gj_id _)
theorem gj_buy (h : gx_G m σ τ) (hm : m < 8800) (x : Int32) : gj_R m (f_X7_buy x σ) (f_X8_buy x τ) := gj_ch h hm (k := 6) (by omega) rfl (g := fun τ => f_X8_buys x τ) (fun τ => by rw [f_X8_does]; exact gj_id _)
theorem gj_month (h : gx_G m σ τ) (hm : m < 8800) : gj_R m (f_X7_month σ) (f_X8_month τ) := gj_ch h hm (k := 7) (by omega) rfl (g := fun τ => f_X8_months τ) (fun τ => by rw [f_X8_does]; exact gj_id _)
theorem gj_townOf (h : gx_G m σ τ) (x y : Int32) : gj_R2 m σ (f_X7_townOf x y σ) (f_X8_townOf x y τ) := by
  obtain ⟨r, τ2, a, b, c⟩ := gz_townOf h.1 x y
  exact ⟨r, τ2, a, b, gj_mono (gj_f h (gx_f1r σ) c) (by omega)⟩
theorem gj_creditOf (h : gx_G m σ τ) (x y : Int32) : gj_R0 m σ τ (f_X7_creditOf x y σ) (f_X8_creditOf x y τ) := by
  obtain ⟨r, a, b⟩ := gz_creditOf h.1 x y
  exact ⟨r, a, b, gj_mono h (by omega)⟩
theorem gj_owes (h : gx_G m σ τ) (x : Int32) : gj_R0 m σ τ (f_X7_owes x σ) (f_X8_owes x τ) := by
  obtain ⟨r, a, b⟩ := gz_owes h.1 x
  exact ⟨r, a, b, gj_mono h (by omega)⟩
theorem gj_owesAgain (h : gx_G m σ τ) (x : Int32) : gj_R0 m σ τ (f_X7_owesAgain x σ) (f_X8_owesAgain x τ) := by
  obtain ⟨r, a, b⟩ := gz_owesAgain h.1 x
  exact ⟨r, a, b, gj_mono h (by omega)⟩
theorem gj_due (h : gx_G m σ τ) (x : Int32) : gj_R0 m σ τ (f_X7_due x σ) (f_X8_due x τ) := by
  obtain ⟨r, a, b⟩ := gz_due h.1 x
  exact ⟨r, a, b, gj_mono h (by omega)⟩
theorem gj_far (h : gx_G m σ τ) (x y : Int32) : gj_R2 m σ (f_X7_far x y σ) (f_X8_far x y τ) := by
  obtain ⟨r, τ2, a, b, c⟩ := gz_far h.1 x y
  exact ⟨r, τ2, a, b, gj_mono (gj_f h (gx_f1r σ) c) (by omega)⟩
theorem gj_drizzle (h : gx_G m σ τ) (x y z : Int32) : gj_R m (f_X7_drizzle x y z σ) (f_X8_drizzle x y z τ) := by
  obtain ⟨r, σ2, τ2, a, b, c, d⟩ := gz_drizzle h.1 x y z
  exact ⟨r, σ2, τ2, a, b, gj_mono (gj_f h c d) (by omega)⟩
theorem gj_drizzleAgain (h : gx_G m σ τ) (x y z : Int32) : gj_R2 m σ (f_X7_drizzleAgain x y z σ) (f_X8_drizzleAgain x y z τ) := by
  obtain ⟨r, τ2, a, b, c⟩ := gz_drizzleAgain h.1 x y z
  exact ⟨r, τ2, a, b, gj_mono (gj_f h (gx_f1r σ) c) (by omega)⟩
theorem gj_would (h : gx_G m σ τ) (hm : m < 8800) (x y z : Int32) : gj_R m (f_X7_would x y z σ) (f_X8_would x y z τ) := by
  obtain ⟨r, σ2, τ2, a, b, c, d⟩ := gz_would h.1 (by omega) x y z
  exact ⟨r, σ2, τ2, a, b, gj_mono (gj_f h c d) (by omega)⟩
theorem gj_most (h : gx_G m σ τ) (hm : m < 8800) (x y : Int32) : gj_R m (f_X7_most x y σ) (f_X8_most x y τ) := by
  obtain ⟨r, σ2, τ2, a, b, c, d⟩ := gz_most h.1 (by omega) x y
  exact ⟨r, σ2, τ2, a, b, gj_mono (gj_f h c d) (by omega)⟩
theorem gj_ranked (h : gx_G m σ τ) (x : Int32) : gj_R0 m σ τ (f_X7_ranked x σ) (f_X8_ranked x τ) := by
  obtain ⟨r, a, b⟩ := gz_ranked h.1 x
  exact ⟨r, a, b, gj_mono h (by omega)⟩
theorem gj_next (h : gx_G m σ τ) (x : Int32) : gj_R0 m σ τ (f_X7_next x σ) (f_X8_next x τ) := by
  obtain ⟨r, a, b⟩ := gz_next h.1 x
  exact ⟨r, a, b, gj_mono h (by omega)⟩
theorem gj_isCounted (h : gx_G m σ τ) : gj_R1 m τ (f_X7_isCounted σ) (f_X8_isCounted τ) := by
  obtain ⟨r, σ2, a, b, c⟩ := ga_isCounted h.1
  exact ⟨r, σ2, a, b, gj_mono (gj_f h c (gx_f2r τ)) (by omega)⟩
theorem gj_account (h : gx_G m σ τ) (x : Int32) : gj_R0 m σ τ (f_X7_account x σ) (f_X8_account x τ) := by
  obtain ⟨n, f, a, b, c, d, e⟩ := h.2.1
  have ht : σ 161 3 = τ 0 21 := by
    obtain ⟨r, _, _, h3, _⟩ := b
    rw [c, ← h3]
  obtain ⟨r, a, b⟩ := ga_account h.1 ht x
  exact ⟨r, a, b, gj_mono h (by omega)⟩
theorem gj_write (h : gx_G m σ τ) (x : Int32) : gj_R m (f_X7_write x σ) (f_X8_write x τ) := by
  obtain ⟨r, σ2, τ2, a, b, c, d⟩ := gl_write h.1 h.2.2.1 x
  exact ⟨r, σ2, τ2, a, b, gj_mono (gj_W h c d) (by omega)⟩
theorem gj_writeCredits (h : gx_G m σ τ) (hm : m < 8800) : gj_R m (f_X7_writeCredits σ) (f_X8_writeCredits τ) := by
  obtain ⟨r, σ2, τ2, a, b, c, d⟩ := gl_writeCredits h.1 (by omega) h.2.2.1
  exact ⟨r, σ2, τ2, a, b, gj_mono (gj_W h c d) (by omega)⟩
theorem gj_written (h : gx_G m σ τ) (x : Int32) : gj_R0 m σ τ (f_X7_written x σ) (f_X8_written x τ) := by
  obtain ⟨r, a, b⟩ := gl_written h.2.2.1 x
  exact ⟨r, a, b, gj_mono h (by omega)⟩
theorem gj_append (h : gx_G m σ τ) (x : Int32) : gj_R m (f_X7_append x σ) (f_X8_append x τ) := by
  obtain ⟨r, σ2, τ2, a, b, c, d⟩ := gl_append h.2.1 x
  exact ⟨r, σ2, τ2, a, b, gj_mono (gj_X h c d) (by omega)⟩
theorem gj_read (h : gx_G m σ τ) (hm : m < 8800) : gj_R m (f_X7_read σ) (f_X8_read τ) := by
  obtain ⟨r, σ2, τ2, a, b, c, d, e, f, g, i⟩ := gx_read h.1 (by omega) h.2.1 h.2.2.2
  exact ⟨r, σ2, τ2, a, b, c, d, gj_L h.2.2.1 (fun p k hp => e p k (by omega)) g f, gj_C h.2.2.2 i⟩
theorem gj_fault (h : gx_G m σ τ) : gj_R0 m σ τ (f_X7_fault σ) (f_X8_fault τ) := by
  obtain ⟨r, a, b⟩ := ga_fault h.1
  exact ⟨r, a, b, gj_mono h (by omega)⟩
theorem gj_reason (h : gx_G m σ τ) (x y : Int32) : gj_R0 m σ τ (f_X7_reason x y σ) (f_X8_reason x y τ) := by
  obtain ⟨r, a, b⟩ := ga_reason h.1 x y
  exact ⟨r, a, b, gj_mono h (by omega)⟩
theorem gj_undo (h : gx_G m σ τ) : gj_R m (f_X7_undo σ) (f_X8_undo τ) := by
  obtain ⟨r, σ2, τ2, a, b, c, d⟩ := gd_undo h.1
  exact ⟨r, σ2, τ2, a, b, gj_mono (gj_U h c d) (by omega)⟩
theorem gj_save (h : gx_G m σ τ) : gj_R m (f_X7_save σ) (f_X8_save τ) := by
  obtain ⟨r, σ2, τ2, a, b, c, d⟩ := gd_save h.1
  exact ⟨r, σ2, τ2, a, b, gj_mono (gj_U h c d) (by omega)⟩
theorem gj_restore (h : gx_G m σ τ) : gj_R m (f_X7_restore σ) (f_X8_restore τ) := by
  obtain ⟨r, σ2, τ2, a, b, c, d⟩ := gd_restore h.1
  exact ⟨r, σ2, τ2, a, b, gj_mono (gj_U h c d) (by omega)⟩
end GJ
