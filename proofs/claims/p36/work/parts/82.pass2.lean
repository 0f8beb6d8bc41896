/-! THE COMMANDS DONE, one after the other -/
theorem pz_vi {f : Nat → Nat} {n : Nat} : ∀ (L : List Nat) (p j : Nat) (s s2 : Nat → Nat) (t : Nat), (pt_o f n L p).1 = true → ((j ≤ t ∧ t < j + pt_c L) ∨ s t = s2 t) → pt_v f n L p j s t = pt_v f n L p j s2 t := by
  intro L
  induction L with
  | nil =>
    intro p j s s2 t _ h
    rw [pk_v0, pk_v0]
    rcases h with h | h
    · exact absurd h.2 (by show ¬ t < j + 0; omega)
    · exact h
  | cons c r ih =>
    intro p j s s2 t ok h
    have ec : pt_c (c :: r) = pt_c r + (if c = 49 ∨ c = 50 then 1 else 0) := rfl
    rw [pt_o] at ok
    rw [pt_v, pt_v]
    by_cases z : c = 49 ∨ c = 50
    · rw [if_pos z] at ok ec
      rw [if_pos z, if_pos z]
      by_cases y : (pt_d f n (c - 48) p 0).2 = 0
      · rw [if_pos y] at ok
        cases ok
      · rw [if_neg y] at ok
        rw [if_neg y, if_neg y]
        refine ih _ _ _ _ t ok ?_
        by_cases x : t = j
        · right
          rw [x, gw_at, gw_at]
        · rcases h with h | h
          · left
            omega
          · right
            rw [gw_ne _ _ x, gw_ne _ _ x, h]
    · rw [if_neg z] at ok ec
      rw [if_neg z, if_neg z]
      by_cases y : pt_h f n p = c
      · rw [if_pos y] at ok
        rw [if_pos y, if_pos y]
        exact ih _ _ _ _ t ok (by rw [ec] at h; exact h)
      · rw [if_neg y] at ok
        cases ok
theorem pz_ir {k : Nat} (hk : k < 8) {a b : Nat → Int32} (h : ∀ t, t < pt_c (pt_f k) → a t = b t) (σ : sg_S) : f_X7_perform (nb k) (a 0) (a 1) (a 2) σ = f_X7_perform (nb k) (b 0) (b 1) (b 2) σ := by
  rcases (by omega : k = 0 ∨ k = 1 ∨ k = 2 ∨ k = 3 ∨ k = 4 ∨ k = 5 ∨ k = 6 ∨ k = 7) with rfl | rfl | rfl | rfl | rfl | rfl | rfl | rfl
  · have e : ∀ x y z : Int32, f_X7_perform (nb 0) x y z σ = sg_bnd2 (f_X7_agree x y 1 σ) (fun r s => some (r, s)) := fun x y z => by
      unfold f_X7_perform
      rw [if_pos (by decide)]
    rw [e, e, h 0 (by decide), h 1 (by decide)]
  · have e : ∀ x y z : Int32, f_X7_perform (nb 1) x y z σ = sg_bnd2 (f_X7_agree x y 0 σ) (fun r s => some (r, s)) := fun x y z => by
      unfold f_X7_perform
      rw [if_neg (by decide), if_pos (by decide)]
    rw [e, e, h 0 (by decide), h 1 (by decide)]
  · have e : ∀ x y z : Int32, f_X7_perform (nb 2) x y z σ = sg_bnd2 (f_X7_lend x y z σ) (fun r s => some (r, s)) := fun x y z => by
      unfold f_X7_perform
      rw [if_neg (by decide), if_neg (by decide), if_pos (by decide)]
    rw [e, e, h 0 (by decide), h 1 (by decide), h 2 (by decide)]
  · have e : ∀ x y z : Int32, f_X7_perform (nb 3) x y z σ = sg_bnd2 (f_X7_takeBack x σ) (fun r s => some (r, s)) := fun x y z => by
      unfold f_X7_perform
      rw [if_neg (by decide), if_neg (by decide), if_neg (by decide), if_pos (by decide)]
    rw [e, e, h 0 (by decide)]
  · have e : ∀ x y z : Int32, f_X7_perform (nb 4) x y z σ = sg_bnd2 (f_X7_pour x y σ) (fun r s => some (r, s)) := fun x y z => by
      unfold f_X7_perform
      rw [if_neg (by decide), if_neg (by decide), if_neg (by decide), if_neg (by decide), if_pos (by decide)]
    rw [e, e, h 0 (by decide), h 1 (by decide)]
  · have e : ∀ x y z : Int32, f_X7_perform (nb 5) x y z σ = sg_bnd2 (f_X7_pledge x y σ) (fun r s => some (r, s)) := fun x y z => by
      unfold f_X7_perform
      rw [if_neg (by decide), if_neg (by decide), if_neg (by decide), if_neg (by decide), if_neg (by decide), if_pos (by decide)]
    rw [e, e, h 0 (by decide), h 1 (by decide)]
  · have e : ∀ x y z : Int32, f_X7_perform (nb 6) x y z σ = sg_bnd2 (f_X7_sell x σ) (fun r s => some (r, s)) := fun x y z => by
      unfold f_X7_perform
      rw [if_neg (by decide), if_neg (by decide), if_neg (by decide), if_neg (by decide), if_neg (by decide), if_neg (by decide), if_pos (by decide)]
    rw [e, e, h 0 (by decide)]
  · have e : ∀ x y z : Int32, f_X7_perform (nb 7) x y z σ = sg_bnd2 (f_X3_pass (sg_e1 1 σ)) (fun r31 τ29 => sg_let (sg_m1 1 13 σ τ29) (fun σ32 => some (r31, σ32))) := fun x y z => by
      unfold f_X7_perform
      rw [if_neg (by decide), if_neg (by decide), if_neg (by decide), if_neg (by decide), if_neg (by decide), if_neg (by decide), if_neg (by decide)]
    rw [e, e]
def pz_F (τ τ2 : sg_S) : Prop := ∀ q k, q ≠ 1 → q ≠ 7 → q ≠ 10 → (q = 0 → k = 1 ∨ (5 ≤ k ∧ k ≠ 15 ∧ k ≠ 22 ∧ k ≠ 25)) → τ2 q k = τ q k
theorem pz_Fp {a b : sg_S} (h : pr_F a b) : pz_F a b := fun q k _ _ h10 h0 => h q k (by omega) h10
theorem pz_Fq {a b : sg_S} (h : gq_F a b) : pz_F a b := fun q k h1 h7 _ h0 => h q k h1 h7 (by omega)
theorem pz_Ft {a b d : sg_S} (h : pz_F a b) (h2 : pz_F b d) : pz_F a d := fun q k h3 h4 h5 h6 => (h2 q k h3 h4 h5 h6).trans (h q k h3 h4 h5 h6)
theorem pz_Hp {m : Nat} {w : Nat → Nat} {σ τ τ2 : sg_S} (h : gq_H m w σ τ) (hF : pr_F τ τ2) : gq_H m w σ τ2 := by
  obtain ⟨a, b, c, d, e, g, i⟩ := h
  exact ⟨a, fun k hk => (hF 1 k (by omega) (by decide)).trans (b k hk), c, gq_Wx d (fun _ => rfl) (fun k h2 h5 => hF _ _ (by omega) (by decide)), (hF 0 0 (by omega) (by decide)).trans e, g, fun k hk => (hF 6 k (by omega) (by decide)).trans (i k hk)⟩
theorem pz_Iq {τ τ2 : sg_S} {f : Nat → Nat} {n p : Nat} (h : pr_I τ f n p) (hF : gq_F τ τ2) : pr_I τ2 f n p := by
  obtain ⟨a, b, c, d, e, g, i, j⟩ := h
  exact ⟨a, b, (hF 0 22 (by decide) (by decide) (by omega)).trans c, (hF 0 23 (by decide) (by decide) (by omega)).trans d, (hF 0 25 (by decide) (by decide) (by omega)).trans e, fun k hk => ⟨(hF 8 k (by decide) (by decide) (by omega)).trans (g k hk).1, (g k hk).2⟩, fun k hk => (hF 11 k (by decide) (by decide) (by omega)).trans (i k hk), fun k hk => (hF 12 k (by decide) (by decide) (by omega)).trans (j k hk)⟩
theorem pz_Dx {f : Nat → Nat} {n : Nat} {κ κ2 : sg_S} (h : ∀ q k, κ2 q k = κ q k) : ∀ (L : List Nat) (i p : Nat), pw_D f n κ i L p → pw_D f n κ2 i L p := by
  have e : κ2 = κ := by
    funext q k
    exact h q k
  rw [e]
  intro L i p h
  exact h
theorem pz_15 {σ σ4 : sg_S} (h : gq_C σ σ4) : sg_m1 0 15 σ σ4 = σ4 := by
  funext p k
  rw [nb_m1]
  by_cases c : 0 ≤ p ∧ p < 0 + 15
  · rw [if_pos c, Nat.sub_zero]
  · rw [if_neg c, h p (by omega)]
/-- a command that says no: all is as before, the reason behind -/
def pz_B (t : Nat) (r : Int32) (σ : sg_S) : Option (Int32 × sg_S) := sg_bnd (f_X3_copyFrom (sg_e2 13 1 15 σ)) (fun τ20 => sg_let (sg_m2 1 13 15 13 σ τ20) (fun σ22 => (if r = (-5) then sg_bnd2 (f_X4_keepOfCommand (nb t) 1 (sg_e1 14 σ22)) (fun r29 τ27 => sg_let (sg_m1 14 1 σ22 τ27) (fun σ30 => some (r29, σ30))) else sg_bnd2 (f_X4_keepOfCommand (nb t) 0 (sg_e1 14 σ22)) (fun r25 τ23 => sg_let (sg_m1 14 1 σ22 τ23) (fun σ26 => some (r25, σ26))))))
def pz_A (σ : sg_S) : Option (Int32 × sg_S) := sg_bnd (f_X2_keep (sg_e2 106 54 15 σ)) (fun τ11 => sg_let (sg_m2 54 106 15 13 σ τ11) (fun σ13 => some (σ13 160 2, σ13)))
theorem pz_2 {f : Nat → Nat} {n : Nat} : ∀ (L : List Nat) (m i p N1 N2 C : Nat) (w : Nat → Nat) (σ τ : sg_S), pw_S f n L p → pw_D f n (sg_e1 160 σ) i L p → σ 160 2 = nb C → C = i + L.length → C ≤ 11 → L.length < N1 → L.length + 1 < N2 → gq_H m w σ τ → pr_I τ f n p → τ 0 26 = 1 → m + L.length < 9000 → ∃ σF τF rr, sg_bnd (f_X8_command τ) (fun τ3 => f_X8_commands_L16 N2 (nb (i + 1)) τ3) = some (rr, τF) ∧ gq_C σ σF ∧ pz_F τ τF ∧ gq_W σF τF ∧ ((rr = nb C ∧ τF 0 0 = 0 ∧ (∃ wF, nb_R (sg_e1 1 σF) wF ∧ nb_V (τF 1) wF ∧ gi_I (m + L.length) wF) ∧ f_X7_read_L50 N1 (nb i) σ = pz_A σF) ∨ (∃ t r, t < C ∧ rr = nb (t + 1) ∧ (r = -1 ∨ r = -2 ∨ r = -5) ∧ τF 0 0 = r ∧ f_X7_read_L50 N1 (nb i) σ = pz_B t r σF)) := by
  intro L
  induction L with
  | nil =>
    intro m i p N1 N2 C w σ τ hS
    exact hS.elim
  | cons k L ih =>
    intro m i p N1 N2 C w σ τ hS hD hC eC hC11 hN1 hN2 hH hI h26 hm
    have hLl : (k :: L).length = L.length + 1 := rfl
    rw [hLl] at eC hN1 hN2 hm
    obtain ⟨N1, rfl⟩ : ∃ k, N1 = k + 1 := ⟨N1 - 1, by omega⟩
    obtain ⟨N2, rfl⟩ : ∃ k, N2 = k + 1 := ⟨N2 - 1, by omega⟩
    obtain ⟨⟨hk, ok, uni⟩, hS2⟩ := hS
    obtain ⟨d3, ⟨s, ds⟩, hD2⟩ := hD
    have hi12 : i < 12 := by omega
    have e163 : σ 163 i = nb k := d3
    have ev : ∀ t, t < 3 → σ (165 + 1 * i) t = nb (pt_v f n (pt_f k) p 0 s t) := fun t ht => by
      have q := ds t ht
      have q2 : σ (160 + (5 + i)) t = nb (pt_v f n (pt_f k) p 0 s t) := q
      rw [(by omega : 160 + (5 + i) = 165 + 1 * i)] at q2
      exact q2
    -- the reference's command
    rcases pk_com hI with ⟨k2, hk2, ok2, uni2, τ2, ec, hI2, hF2⟩ | ⟨non, _⟩
    · have ekk : k2 = k := by
        by_cases z : k2 = k
        · exact z
        · rw [uni k2 hk2 z] at ok2
          cases ok2
      subst ekk
      have hH2 := pz_Hp hH hF2
      have t26 : τ2 0 26 = 1 := (hF2 0 26 (by omega) (by decide)).trans h26
      obtain ⟨r, σ3, τ3, g1, g2, hW3, hC3, hF3, hO⟩ := gq_do hH2 hk2 (nb (pt_v f n (pt_f k2) p 0 (fun _ => 0) 0)) (nb (pt_v f n (pt_f k2) p 0 (fun _ => 0) 1)) (nb (pt_v f n (pt_f k2) p 0 (fun _ => 0) 2))
      have ir := pz_ir hk2 (a := fun t => nb (pt_v f n (pt_f k2) p 0 s t)) (b := fun t => nb (pt_v f n (pt_f k2) p 0 (fun _ => 0) t)) (fun t ht => congrArg nb (pz_vi (pt_f k2) p 0 s (fun _ => 0) t ok (Or.inl ⟨Nat.zero_le t, by omega⟩))) σ
      have g1' : f_X7_perform (nb k2) (nb (pt_v f n (pt_f k2) p 0 s 0)) (nb (pt_v f n (pt_f k2) p 0 s 1)) (nb (pt_v f n (pt_f k2) p 0 s 2)) σ = some (r, σ3) := ir.trans g1
      have c79 : f_X8_command τ = some τ3 := by
        rw [ec]
        unfold f_X8_command_J79
        rw [hI2.2.2.2.2.1, if_pos rfl, t26, if_neg nb_10, g2, nb_bnd2]
      have hI3 := pz_Iq hI2 hF3
      have hF13 : pz_F τ τ3 := pz_Ft (pz_Fp hF2) (pz_Fq hF3)
      have cls : f_X7_read_L50 (N1 + 1) (nb i) σ = if r < 0 then pz_B i r σ3 else f_X7_read_L50 N1 (nb (i + 1)) σ3 := by
        rw [f_X7_read_L50, hC, if_pos (nb_lt_t (by omega) (by omega)), nb_grd (nb_in hi12 (by decide)), nb_tn (a := i) (by omega), nb_let, e163, ev 0 (by decide), ev 1 (by decide), ev 2 (by decide), g1', nb_bnd2, nb_let, pz_15 hC3, nb_succ]
        rfl
      rw [c79, nb_bnd]
      rcases hO with ⟨nn, w2, er, hn, z0, hR4, hV4, hI4⟩ | ⟨er, z0, z2, hR4, hV4⟩
      · have nr : ¬ r < 0 := by
          rw [er]
          exact nb_nneg (by omega)
        rw [cls, if_neg nr]
        have h6 := hH.2.2.2.2.2.2
        have hH3 : gq_H (m + 1) w2 σ3 τ3 := ⟨hR4, hV4, hI4, hW3, z0, by omega, fun k hk => (hF13 6 k (by decide) (by decide) (by decide) (by omega)).trans (h6 k hk)⟩
        have hC3' : σ3 160 2 = nb C := by
          rw [hC3 160 (by omega)]
          exact hC
        rcases hS2 with ⟨enil, efin⟩ | ⟨ltn, semi, hS3⟩
        · subst enil
          rw [efin] at hI3
          have eC' : C = i + 1 := eC
          refine ⟨σ3, τ3, nb (i + 1), pw_end hI3, hC3, hF13, hW3, Or.inl ⟨by rw [eC'], z0, ⟨w2, hR4, hV4, hI4⟩, ?_⟩⟩
          obtain ⟨N1, rfl⟩ : ∃ k, N1 = k + 1 := ⟨N1 - 1, by omega⟩
          rw [f_X7_read_L50, hC3', if_neg (nb_lt_f (by omega) (by omega))]
          rfl
        · obtain ⟨τ4, y1, y2, y3⟩ := pw_go (N := N2) (z := i + 1) hI3 z0 ltn semi
          rw [y1]
          have hD3 : pw_D f n (sg_e1 160 σ3) (i + 1) L ((pt_o f n (pt_f k2) p).2 + 1) := pz_Dx (fun q k => by
            show σ3 (160 + q) k = σ (160 + q) k
            rw [hC3 (160 + q) (by omega)]) L (i + 1) _ hD2
          have t26b : τ4 0 26 = 1 := (y3 0 26 (by omega) (by decide)).trans ((hF13 0 26 (by decide) (by decide) (by decide) (by omega)).trans h26)
          obtain ⟨σF, τF, rr, x1, x2, x3, x4, x5⟩ := ih (m + 1) (i + 1) ((pt_o f n (pt_f k2) p).2 + 1) N1 N2 C w2 σ3 τ4 hS3 hD3 hC3' (by omega) hC11 (by omega) (by omega) (pz_Hp hH3 y3) y2 t26b (by omega)
          refine ⟨σF, τF, rr, x1, fun q hq => (x2 q hq).trans (hC3 q hq), pz_Ft hF13 (pz_Ft (pz_Fp y3) x3), x4, ?_⟩
          rcases x5 with ⟨u1, u2, ⟨wF, u3, u4, u5⟩, u6⟩ | ⟨t, r2, u1, u2, u3, u4, u5⟩
          · exact Or.inl ⟨u1, u2, ⟨wF, u3, u4, gi_mono u5 (by rw [hLl]; omega)⟩, u6⟩
          · exact Or.inr ⟨t, r2, u1, u2, u3, u4, u5⟩
      · have rn : r < 0 := by rcases er with e | e | e <;> rw [e] <;> decide
        have r0 : ¬ r = 0 := by rcases er with e | e | e <;> rw [e] <;> decide
        rw [cls, if_pos rn]
        refine ⟨σ3, τ3, nb (i + 1), ?_, hC3, hF13, hW3, Or.inr ⟨i, r, by omega, rfl, er, z0, rfl⟩⟩
        rw [f_X8_commands_L16, hI3.2.2.2.2.1, if_pos rfl, z0, if_neg r0]
    · rw [non k hk] at ok
      cases ok
