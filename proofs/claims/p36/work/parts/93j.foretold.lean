/-! THE LAW: foretold -/
theorem ksL_foretold_m1 : Cond.methodLink RL 29 Lib.Math.max.name ∈ wsL_foretold := by decide +kernel
theorem ksL_foretold_m2 : Cond.static Lib.Math.max.name ∈ wsL_foretold := by decide +kernel
theorem ksL_foretold_m3 : Cond.initialized "java/lang/Math" ∈ wsL_foretold := by decide +kernel
theorem ksL_foretold_m4 : Cond.code Lib.Math.max.name Lib.Math.max.code 2 (some .int) ∈ wsL_foretold := by decide +kernel
theorem ksL_foretold_ai : Cond.arrayClass .int ∈ wsL_foretold := by decide +kernel
theorem ch_0 {m c : Nat} {w : Nat → Nat} {σ : sg_S} (h : cl_A m w c σ) (hm : m < 9000) {k : Nat} (hk : k < 8) (x y z : Int32) {r : Int32} {σ2 : sg_S} (e : f_X7_change (nb k) x y z σ = some (r, σ2)) : ∀ j, σ2 0 j = σ 0 j := by
  obtain ⟨τc, ec, ac, bc⟩ := hr_cp (σ := σ) (o := 15) (o2 := 1) (by omega)
  unfold f_X7_change at e
  rw [ec, nb_bnd, nb_let] at e
  generalize sg_m2 15 13 1 13 σ τc = σ3 at ac bc e
  have hR3 : nb_R (sg_e1 1 σ3) w := nb_Rx h.1 h.2.1.2.1 (fun _ _ => rfl) (fun p k hp _ _ => (bc _ _ (by omega)).symm)
  obtain ⟨r1, σ4, e1, hC4, hO⟩ := cl_do hR3 h.2.1 hm hk x y z
  rw [e1, nb_bnd2, nb_let] at e
  have e4 : sg_m1 0 15 σ3 σ4 = σ4 := by
    funext p k
    rw [nb_m1]
    by_cases c : 0 ≤ p ∧ p < 0 + 15
    · rw [if_pos c, Nat.sub_zero]
    · rw [if_neg c, hC4 p (by omega)]
  rw [e4] at e
  have b0 : ∀ j, σ4 0 j = σ 0 j := fun j => by rw [hC4 0 (Or.inl rfl), bc _ _ (by omega)]
  by_cases hr : 0 ≤ r1
  · rw [if_pos hr] at e
    cases e8 : f_X2_keep (sg_e2 106 54 15 σ4) with
    | none => rw [e8] at e; cases e
    | some τ8 =>
      rw [e8, nb_bnd, nb_let] at e
      cases e
      intro j
      rw [nb_m2, if_neg (by omega), if_neg (by omega)]
      exact b0 j
  · rw [if_neg hr] at e
    cases e
    exact b0
theorem ch_bnd {o : Option (Int32 × sg_S)} {v : Int32 × sg_S} (h : sg_bnd2 o (fun r τ => some (r, τ)) = some v) : o = some v := by
  cases o with
  | none => cases h
  | some q =>
    obtain ⟨a, b⟩ := q
    exact h
theorem ch_F {m c : Nat} {w : Nat → Nat} {σ : sg_S} (h : cl_A m w c σ) (hm : m < 9000) {k : Nat} (hk : k < 8) (x y z : Int32) {r : Int32} {σ2 : sg_S} (e : f_X7_change (nb k) x y z σ = some (r, σ2)) (hF : fr_F fs_ch σ σ2) : cl_F σ σ2 :=
  ⟨ch_0 h hm hk x y z e 4, fun p k h1 h2 => hF p k (Or.inl ⟨by omega, h2⟩)⟩
theorem kb_sv {σ σ2 : sg_S} (h : ∀ p k, ¬ (41 ≤ p ∧ p < 54) → ¬ (p = 0 ∧ k = 4) → σ2 p k = σ p k) : sg_mg kb_TNS σ σ2 = σ2 := by
  refine sl_mgE (fun p k hp => ?_)
  unfold kb_TNS at hp
  rw [nb_ble, nb_ble, nb_ble] at hp
  simp only [Bool.or_eq_false_iff, Bool.and_eq_false_iff, decide_eq_false_iff_not] at hp
  exact h p k (by omega) (by omega)
theorem kb_re {σ σ2 : sg_S} (h : ∀ p k, ¬ (1 ≤ p ∧ p < 14) → ¬ (p = 54 ∧ k = 0) → σ2 p k = σ p k) : sg_mg kb_TNSh σ σ2 = σ2 := by
  refine sl_mgE (fun p k hp => ?_)
  unfold kb_TNSh at hp
  rw [nb_ble, nb_ble, nb_ble] at hp
  simp only [Bool.or_eq_false_iff, Bool.and_eq_false_iff, decide_eq_false_iff_not] at hp
  exact h p k (by omega) (by omega)
theorem re_S {w : Nat → Nat} {σ σ2 : sg_S} (hS : cl_S w σ) (h8 : w 1 ≤ 8) (h : ∀ p k, ¬ (1 ≤ p ∧ p < 14) → ¬ (p = 54 ∧ k = 0) → σ2 p k = σ p k) : cl_S w σ2 :=
  cl_Sx hS h8 ⟨h 0 4 (by omega) (by omega), fun p k h1 h2 => h p k (by omega) (by omega)⟩
def fo_s (w : Nat → Nat) (t c : Nat) : Nat := gc_s (fun i => decide (w (55 + 3 * i) = t) && decide (w (57 + 3 * i) = w 0 + 1)) (fun i => w (56 + 3 * i)) c
theorem fo_T {w : Nat → Nat} {t c : Nat} (h1 : w (55 + 3 * c) = t) (h2 : w (57 + 3 * c) = w 0 + 1) : fo_s w t (c + 1) = fo_s w t c + w (56 + 3 * c) :=
  (gc_sT (p := fun i => decide (w (55 + 3 * i) = t) && decide (w (57 + 3 * i) = w 0 + 1)) (h := fun i => w (56 + 3 * i)) (by rw [decide_eq_true h1, decide_eq_true h2]; rfl)).symm
theorem fo_F {w : Nat → Nat} {t c : Nat} (h : ¬ (w (55 + 3 * c) = t ∧ w (57 + 3 * c) = w 0 + 1)) : fo_s w t (c + 1) = fo_s w t c := by
  refine (gc_sF (p := fun i => decide (w (55 + 3 * i) = t) && decide (w (57 + 3 * i) = w 0 + 1)) (h := fun i => w (56 + 3 * i)) ?_).symm
  rw [← Bool.decide_and, decide_eq_false_iff_not]
  exact h
theorem fo_B {w : Nat → Nat} {t : Nat} (h : ∀ c, c < w 1 → w (56 + 3 * c) ≤ 20) : ∀ c, c ≤ w 1 → fo_s w t c ≤ 20 * c := by
  intro c
  induction c with
  | zero => exact fun _ => Nat.le_refl 0
  | succ c ih =>
    intro hc
    have h1 := ih (by omega)
    have h2 := h c (by omega)
    by_cases q : w (55 + 3 * c) = t ∧ w (57 + 3 * c) = w 0 + 1
    · rw [fo_T q.1 q.2]
      omega
    · rw [fo_F q]
      omega
theorem fo_g {ws : Nat → Nat} (k i : Nat) : (fun i => if i < k + 1 then ws (10 + 4 * (i / 4) + i % 4) else 0) i = if i = k then ws (10 + 4 * (k / 4) + k % 4) else (fun i => if i < k then ws (10 + 4 * (i / 4) + i % 4) else 0) i := by
  show (if i < k + 1 then ws (10 + 4 * (i / 4) + i % 4) else 0) = if i = k then ws (10 + 4 * (k / 4) + k % 4) else if i < k then ws (10 + 4 * (i / 4) + i % 4) else 0
  by_cases e : i = k
  · rw [if_pos e, if_pos (by omega), e]
  · rw [if_neg e]
    by_cases c : i < k
    · rw [if_pos c, if_pos (by omega)]
    · rw [if_neg c, if_neg (by omega)]
set_option maxHeartbeats 4000000 in
set_option maxRecDepth 100000 in
theorem k_foretold (l : Launch) {D : va_G} {Y : Nat → ClassId} {Z : (Nat → Prop) → State → Heap → Prop} (hZ : sg_Zok Z) {ad : Nat → Nat} {σ : sg_S} {m0 c0 : Nat} {w : Nat → Nat} (hA : cl_A m0 w c0 σ) (hm : m0 ≤ 31) {a : Nat} {v : Int32} : sg_XI l yL_foretold wsL_foretold 8 210 1 20 D Y Z [.ref (ad 0), .ref a] (sl_w Y ad σ (bx_W a v ++ [])) (fun (r : Int32) (u : sg_S × Int32) => r = 1 ∧ cl_A m0 w 0 u.1) (fun u => sl_w Y ad u.1 (bx_W a u.2 ++ [])) := by
  intro sz
  refine sg_enterX (own := RL) (maxL := 12) (ret := (some .boolean)) (cc := cL_foretold) (by decide +kernel) rfl rfl (Nat.le_of_ble_eq_true rfl) hZ ?_
  intro p e s m args below meth cd C hr hin Q hQ hsz
  have hJ1 : w 1 ≤ 8 := hA.2.1.2.1
  refine g_lv (lv2 := [(0, .ref (ad 0)), (1, .ref a)]) [0, 1] rfl ?_
  refine g_aload_n 1 C dL_foretold_0 rfl rfl rfl ?_
  obtain ⟨σs, es, hsx, hS0⟩ := cl_save hA
  have hAs := cl_saveA hA hsx
  refine lc_save 4 C gL_foretold_X7_save ⟨(Nat.le_of_ble_eq_true rfl), (Nat.le_of_ble_eq_true rfl)⟩ (Nat.le_of_ble_eq_true rfl) es ⟨(Nat.le_of_ble_eq_true rfl), (Nat.le_of_ble_eq_true rfl)⟩ dL_foretold_1 rfl ?_
  rw [kb_sv hsx]
  refine g_istore_n 5 C [(2, .int (nb (w 0))), (0, .ref (ad 0)), (1, .ref a)] dL_foretold_4 rfl rfl (by decide) rfl ?_
  refine g_aload_n 6 C dL_foretold_5 rfl rfl rfl ?_
  refine g_iconst 7 C (nb 5) dL_foretold_6 rfl (by decide) ?_
  refine lb_next 10 C gL_foretold_X8_next ⟨(Nat.le_of_ble_eq_true rfl), (Nat.le_of_ble_eq_true rfl)⟩ (Nat.le_of_ble_eq_true rfl) (by decide) (by decide) ⟨(Nat.le_of_ble_eq_true rfl), (Nat.le_of_ble_eq_true rfl)⟩ dL_foretold_7 rfl (fun t u1 ht => ?_)
  refine g_istore_n 11 C [(3, .int (nb t)), (2, .int (nb (w 0))), (0, .ref (ad 0)), (1, .ref a)] dL_foretold_10 rfl rfl (by decide) rfl ?_
  refine g_iconst 12 C (nb 1) dL_foretold_11 rfl (by decide) ?_
  refine g_aload_n 13 C dL_foretold_12 rfl rfl rfl ?_
  refine g_bipush 15 C (nb 6) dL_foretold_13 rfl (by decide) ?_
  refine lb_next 18 C gL_foretold_X8_next ⟨(Nat.le_of_ble_eq_true rfl), (Nat.le_of_ble_eq_true rfl)⟩ (Nat.le_of_ble_eq_true rfl) (by decide) (by decide) ⟨(Nat.le_of_ble_eq_true rfl), (Nat.le_of_ble_eq_true rfl)⟩ dL_foretold_15 rfl (fun r2 u2 hr2 => ?_)
  refine g_iadd 19 C dL_foretold_18 rfl ?_
  refine g_top (v := (nb (1 + r2))) (nb_add _ _).symm ?_
  obtain ⟨M, hMe⟩ : ∃ M, M = 1 + r2 := ⟨_, rfl⟩
  rw [← hMe]
  have hM1 : 1 ≤ M := by omega
  have hM6 : M ≤ 6 := by omega
  refine g_istore 21 C [(4, .int (nb M)), (3, .int (nb t)), (2, .int (nb (w 0))), (0, .ref (ad 0)), (1, .ref a)] dL_foretold_19 rfl (by decide) rfl ?_
  refine g_aload_n 22 C dL_foretold_21 rfl rfl rfl ?_
  refine g_iload_n 23 C dL_foretold_22 rfl rfl rfl ?_
  refine g_iload 25 C dL_foretold_23 rfl rfl ?_
  obtain ⟨H, σm, em, hmo, hmf⟩ := cl_most hAs (by omega) ht hM1 hM6
  refine lc_most 28 C gL_foretold_X7_most ⟨(Nat.le_of_ble_eq_true rfl), (Nat.le_of_ble_eq_true rfl)⟩ (Nat.le_of_ble_eq_true rfl) em ⟨(Nat.le_of_ble_eq_true rfl), (Nat.le_of_ble_eq_true rfl)⟩ dL_foretold_25 rfl ?_
  have f4 := mg_f1 (b := kb_TNR) hmf
  have hA1 := cl_Af hAs f4
  have hS1 := cl_QS hS0 hJ1 (cl_Qf f4)
  generalize sg_mg kb_TNR σs σm = σ1 at f4 hA1 hS1
  skip
  refine g_istore 30 C [(5, .int (nb H)), (4, .int (nb M)), (3, .int (nb t)), (2, .int (nb (w 0))), (0, .ref (ad 0)), (1, .ref a)] dL_foretold_28 rfl (by decide) rfl ?_
  refine g_iconst 31 C (nb 1) dL_foretold_30 rfl (by decide) ?_
  refine g_istore 33 C [(6, .int (nb 1)), (5, .int (nb H)), (4, .int (nb M)), (3, .int (nb t)), (2, .int (nb (w 0))), (0, .ref (ad 0)), (1, .ref a)] dL_foretold_31 rfl (by decide) rfl ?_
  refine g_aload_n 34 C dL_foretold_33 rfl rfl rfl ?_
  refine g_iconst 35 C (nb 1) dL_foretold_34 rfl (by decide) ?_
  refine lc_account 38 C gL_foretold_X7_account ⟨(Nat.le_of_ble_eq_true rfl), (Nat.le_of_ble_eq_true rfl)⟩ (Nat.le_of_ble_eq_true rfl) (ce_account hA1 (k := 1) (by decide)) ⟨(Nat.le_of_ble_eq_true rfl), (Nat.le_of_ble_eq_true rfl)⟩ dL_foretold_35 rfl ?_
  refine g_top (v := (nb (w 1))) rfl ?_
  refine g_istore 40 C [(7, .int (nb (w 1))), (6, .int (nb 1)), (5, .int (nb H)), (4, .int (nb M)), (3, .int (nb t)), (2, .int (nb (w 0))), (0, .ref (ad 0)), (1, .ref a)] dL_foretold_38 rfl (by decide) rfl ?_
  refine g_bipush 42 C (nb 20) dL_foretold_40 rfl (by decide) ?_
  refine g_istore 44 C [(8, .int (nb 20)), (7, .int (nb (w 1))), (6, .int (nb 1)), (5, .int (nb H)), (4, .int (nb M)), (3, .int (nb t)), (2, .int (nb (w 0))), (0, .ref (ad 0)), (1, .ref a)] dL_foretold_42 rfl (by decide) rfl ?_
  refine g_lv (lv2 := [(8, .int (nb 20)), (7, .int (nb (w 1))), (6, .int (nb 1)), (5, .int (nb H)), (4, .int (nb M)), (3, .int (nb t)), (2, .int (nb (w 0))), (0, .ref (ad 0)), (1, .ref a)]) [0, 1, 2, 3, 4, 5, 6, 7, 8] rfl ?_
  have F1 : (∀ (h : Nat), ∀ (c : Nat) (σ2 : sg_S), cl_A m0 w c σ2 → cl_S w σ2 → sg_G p l e { frames := 8, cells := 1, slots := 20, locals := 210 } s m args below meth cd D (va_A (sl_w Y ad σ (bx_W a v ++ [])) s.heap.size) 12 0 0 Q 227 [(8, .int (nb h)), (7, .int (nb (w 1))), (6, .int (nb 1)), (5, .int (nb H)), (4, .int (nb M)), (3, .int (nb t)), (2, .int (nb (w 0))), (0, .ref (ad 0)), (1, .ref a)] [] (sl_w Y ad σ2 (bx_W a u2 ++ []))) → ∀ (h : Nat), h ≤ 20 → max 1 H ≤ h + 1 → ∀ (c : Nat) (σ2 : sg_S), cl_A m0 w c σ2 → cl_S w σ2 → sg_G p l e { frames := 8, cells := 1, slots := 20, locals := 210 } s m args below meth cd D (va_A (sl_w Y ad σ (bx_W a v ++ [])) s.heap.size) 12 0 0 Q 44 [(8, .int (nb h)), (7, .int (nb (w 1))), (6, .int (nb 1)), (5, .int (nb H)), (4, .int (nb M)), (3, .int (nb t)), (2, .int (nb (w 0))), (0, .ref (ad 0)), (1, .ref a)] [] (sl_w Y ad σ2 (bx_W a u2 ++ [])) := by
    intro hend h
    induction h with
    | zero =>
      intro hh1 hh2 c σ2 hA2 hS2
      refine g_iload 46 C dL_foretold_44 rfl rfl ?_
      refine g_iconst 47 C (nb 1) dL_foretold_46 rfl (by decide) ?_
      refine g_iload 49 C dL_foretold_47 rfl rfl ?_
      refine g_mmax 52 C ksL_foretold_m1 ksL_foretold_m2 ksL_foretold_m3 ksL_foretold_m4 (Nat.le_of_ble_eq_true rfl) (Nat.le_of_ble_eq_true rfl) (Nat.le_of_ble_eq_true rfl) (Nat.le_of_ble_eq_true rfl) dL_foretold_49 rfl ?_
      refine g_top (v := (nb (max 1 H))) (bx_max H (by omega)).symm ?_
      refine g_icmp_lt 55 227 C dL_foretold_52 (by decide) rfl (T := some ()) (E := none) (v := ()) (if_neg (nb_le_f (by omega) (by omega))) (fun _ => ?_) (fun h => by cases h)
      exact hend 0 c σ2 hA2 hS2
    | succ h ih =>
      intro hh1 hh2 c σ2 hA2 hS2
      have K103 : max 1 H ≤ h + 1 → ∀ (tk : Nat) (j : Int32) (mx : Nat) (wx : Nat → Nat) (cx : Nat) (σx : sg_S), cl_A mx wx cx σx → cl_S w σx → mx < 9000 → ((tk = 1 ∧ cl_cr w t (h + 1) ∧ wm_P (M - 1) (gl_w w t (h + 1) M) wx) ∨ (tk = 0 ∧ ¬ cl_cr w t (h + 1))) → sg_G p l e { frames := 8, cells := 1, slots := 20, locals := 210 } s m args below meth cd D (va_A (sl_w Y ad σ (bx_W a v ++ [])) s.heap.size) 12 0 0 Q 103 [(10, .int j), (9, .int (nb tk)), (8, .int (nb (h + 1))), (7, .int (nb (w 1))), (6, .int (nb 1)), (5, .int (nb H)), (4, .int (nb M)), (3, .int (nb t)), (2, .int (nb (w 0))), (0, .ref (ad 0)), (1, .ref a)] [] (sl_w Y ad σx (bx_W a u2 ++ [])) := by
        intro hmh tk j mx wx cx σx hAx hSx hmx ht9
        have hx3 := hAx.2.1.2.2.2.1
        have hx6 := hAx.2.1.2.2.2.2.2.2.1
        have hx1 : wx 1 ≤ 8 := hAx.2.1.2.1
        have LC : sg_G p l e { frames := 8, cells := 1, slots := 20, locals := 210 } s m args below meth cd D (va_A (sl_w Y ad σ (bx_W a v ++ [])) s.heap.size) 12 0 0 Q 163 [(11, .int (nb (wx 1))), (10, .int (nb (fo_s wx t (wx 1)))), (9, .int (nb tk)), (8, .int (nb (h + 1))), (7, .int (nb (w 1))), (6, .int (nb 1)), (5, .int (nb H)), (4, .int (nb M)), (3, .int (nb t)), (2, .int (nb (w 0))), (0, .ref (ad 0)), (1, .ref a)] [] (sl_w Y ad σx (bx_W a u2 ++ [])) → ∀ (d c : Nat), c + d = wx 1 → sg_G p l e { frames := 8, cells := 1, slots := 20, locals := 210 } s m args below meth cd D (va_A (sl_w Y ad σ (bx_W a v ++ [])) s.heap.size) 12 0 0 Q 109 [(11, .int (nb c)), (10, .int (nb (fo_s wx t c))), (9, .int (nb tk)), (8, .int (nb (h + 1))), (7, .int (nb (w 1))), (6, .int (nb 1)), (5, .int (nb H)), (4, .int (nb M)), (3, .int (nb t)), (2, .int (nb (w 0))), (0, .ref (ad 0)), (1, .ref a)] [] (sl_w Y ad σx (bx_W a u2 ++ [])) := by
          intro hend d
          induction d with
          | zero =>
            intro c h1
            refine g_iload 111 C dL_foretold_109 rfl rfl ?_
            refine g_aload_n 112 C dL_foretold_111 rfl rfl rfl ?_
            refine g_iconst 113 C (nb 1) dL_foretold_112 rfl (by decide) ?_
            refine lc_account 116 C gL_foretold_X7_account ⟨(Nat.le_of_ble_eq_true rfl), (Nat.le_of_ble_eq_true rfl)⟩ (Nat.le_of_ble_eq_true rfl) (ce_account hAx (k := 1) (by decide)) ⟨(Nat.le_of_ble_eq_true rfl), (Nat.le_of_ble_eq_true rfl)⟩ dL_foretold_113 rfl ?_
            refine g_top (v := (nb (wx 1))) rfl ?_
            refine g_icmp_ge 119 163 C dL_foretold_116 (by decide) rfl (T := some ()) (E := none) (v := ()) (if_neg (nb_lt_f (by omega) (by omega))) (fun _ => ?_) (fun h => by cases h)
            have hc : c = wx 1 := by omega
            rw [hc]
            exact hend
          | succ d ih =>
            intro c h1
            refine g_iload 111 C dL_foretold_109 rfl rfl ?_
            refine g_aload_n 112 C dL_foretold_111 rfl rfl rfl ?_
            refine g_iconst 113 C (nb 1) dL_foretold_112 rfl (by decide) ?_
            refine lc_account 116 C gL_foretold_X7_account ⟨(Nat.le_of_ble_eq_true rfl), (Nat.le_of_ble_eq_true rfl)⟩ (Nat.le_of_ble_eq_true rfl) (ce_account hAx (k := 1) (by decide)) ⟨(Nat.le_of_ble_eq_true rfl), (Nat.le_of_ble_eq_true rfl)⟩ dL_foretold_113 rfl ?_
            refine g_top (v := (nb (wx 1))) rfl ?_
            refine g_icmp_ge 119 163 C dL_foretold_116 (by decide) rfl (T := none) (E := some ()) (v := ()) (if_pos (nb_lt_t (by omega) (by omega))) (fun h => by cases h) (fun _ => ?_)
            have hc : c < wx 1 := by omega
            obtain ⟨b1, b2, b3, b4, b5⟩ := hx6 c hc
            have hB := fo_B (w := wx) (t := t) (fun c hc => (hx6 c hc).2.2.1) c (by omega)
            have K154 : ∀ z, fo_s wx t (c + 1) = fo_s wx t c + z → sg_G p l e { frames := 8, cells := 1, slots := 20, locals := 210 } s m args below meth cd D (va_A (sl_w Y ad σ (bx_W a v ++ [])) s.heap.size) 12 0 0 Q 154 [(11, .int (nb c)), (10, .int (nb (fo_s wx t c))), (9, .int (nb tk)), (8, .int (nb (h + 1))), (7, .int (nb (w 1))), (6, .int (nb 1)), (5, .int (nb H)), (4, .int (nb M)), (3, .int (nb t)), (2, .int (nb (w 0))), (0, .ref (ad 0)), (1, .ref a)] [.int (nb z), .int (nb (fo_s wx t c))] (sl_w Y ad σx (bx_W a u2 ++ [])) := by
              intro z hz
              refine g_iadd 155 C dL_foretold_154 rfl ?_
              refine g_top (v := (nb (fo_s wx t (c + 1)))) (by rw [hz, nb_add]) ?_
              refine g_istore 157 C [(10, .int (nb (fo_s wx t (c + 1)))), (11, .int (nb c)), (9, .int (nb tk)), (8, .int (nb (h + 1))), (7, .int (nb (w 1))), (6, .int (nb 1)), (5, .int (nb H)), (4, .int (nb M)), (3, .int (nb t)), (2, .int (nb (w 0))), (0, .ref (ad 0)), (1, .ref a)] dL_foretold_155 rfl (by decide) rfl ?_
              refine g_iinc 160 C 1 (nb (c + 1)) [(11, .int (nb (c + 1))), (10, .int (nb (fo_s wx t (c + 1)))), (9, .int (nb tk)), (8, .int (nb (h + 1))), (7, .int (nb (w 1))), (6, .int (nb 1)), (5, .int (nb H)), (4, .int (nb M)), (3, .int (nb t)), (2, .int (nb (w 0))), (0, .ref (ad 0)), (1, .ref a)] dL_foretold_157 rfl rfl (nb_succ c) (by decide) rfl ?_
              refine g_goto 109 C dL_foretold_160 (by decide) ?_
              refine g_lv (lv2 := [(11, .int (nb (c + 1))), (10, .int (nb (fo_s wx t (c + 1)))), (9, .int (nb tk)), (8, .int (nb (h + 1))), (7, .int (nb (w 1))), (6, .int (nb 1)), (5, .int (nb H)), (4, .int (nb M)), (3, .int (nb t)), (2, .int (nb (w 0))), (0, .ref (ad 0)), (1, .ref a)]) [0, 1, 2, 3, 4, 5, 6, 7, 8, 9, 10, 11] rfl ?_
              exact ih (c + 1) (by omega)
            refine g_iload 121 C dL_foretold_119 rfl rfl ?_
            refine g_aload_n 122 C dL_foretold_121 rfl rfl rfl ?_
            refine g_iload 124 C dL_foretold_122 rfl rfl ?_
            refine g_iconst 125 C (nb 0) dL_foretold_124 rfl (by decide) ?_
            refine lc_creditOf 128 C gL_foretold_X7_creditOf ⟨(Nat.le_of_ble_eq_true rfl), (Nat.le_of_ble_eq_true rfl)⟩ (Nat.le_of_ble_eq_true rfl) (k_c0 hAx hc) ⟨(Nat.le_of_ble_eq_true rfl), (Nat.le_of_ble_eq_true rfl)⟩ dL_foretold_125 rfl ?_
            refine g_iload_n 129 C dL_foretold_128 rfl rfl rfl ?_
            by_cases q1 : wx (55 + 3 * c) = t
            · skip
              refine g_icmp_ne 132 153 C dL_foretold_129 (by decide) rfl (T := none) (E := some ()) (v := ()) (if_pos (by rw [q1])) (fun h => by cases h) (fun _ => ?_)
              refine g_aload_n 133 C dL_foretold_132 rfl rfl rfl ?_
              refine g_iload 135 C dL_foretold_133 rfl rfl ?_
              refine g_iconst 136 C (nb 3) dL_foretold_135 rfl (by decide) ?_
              refine lc_creditOf 139 C gL_foretold_X7_creditOf ⟨(Nat.le_of_ble_eq_true rfl), (Nat.le_of_ble_eq_true rfl)⟩ (Nat.le_of_ble_eq_true rfl) (k_c3 hAx hc) ⟨(Nat.le_of_ble_eq_true rfl), (Nat.le_of_ble_eq_true rfl)⟩ dL_foretold_136 rfl ?_
              refine g_iconst 140 C (nb 1) dL_foretold_139 rfl (by decide) ?_
              by_cases q2 : wx (57 + 3 * c) - wx 0 = 1
              · skip
                refine g_icmp_ne 143 153 C dL_foretold_140 (by decide) rfl (T := none) (E := some ()) (v := ()) (if_pos (by rw [q2])) (fun h => by cases h) (fun _ => ?_)
                refine g_aload_n 144 C dL_foretold_143 rfl rfl rfl ?_
                refine g_iload 146 C dL_foretold_144 rfl rfl ?_
                refine g_iconst 147 C (nb 1) dL_foretold_146 rfl (by decide) ?_
                refine lc_creditOf 150 C gL_foretold_X7_creditOf ⟨(Nat.le_of_ble_eq_true rfl), (Nat.le_of_ble_eq_true rfl)⟩ (Nat.le_of_ble_eq_true rfl) (k_c1 hAx hc) ⟨(Nat.le_of_ble_eq_true rfl), (Nat.le_of_ble_eq_true rfl)⟩ dL_foretold_147 rfl ?_
                refine g_goto 154 C dL_foretold_150 (by decide) ?_
                exact K154 _ (fo_T q1 (by omega))
              · skip
                refine g_icmp_ne 143 153 C dL_foretold_140 (by decide) rfl (T := some ()) (E := none) (v := ()) (if_neg (nb_ne (b := 1) q2 (by omega) (by decide))) (fun _ => ?_) (fun h => by cases h)
                refine g_iconst 154 C (nb 0) dL_foretold_153 rfl (by decide) ?_
                exact K154 0 (fo_F (fun q => q2 (by omega)))
            · skip
              refine g_icmp_ne 132 153 C dL_foretold_129 (by decide) rfl (T := some ()) (E := none) (v := ()) (if_neg (nb_ne q1 (by omega) (by omega))) (fun _ => ?_) (fun h => by cases h)
              refine g_iconst 154 C (nb 0) dL_foretold_153 rfl (by decide) ?_
              exact K154 0 (fo_F (fun q => q1 q.1))
        refine g_iconst 104 C (nb 0) dL_foretold_103 rfl (by decide) ?_
        refine g_istore 106 C [(10, .int (nb 0)), (9, .int (nb tk)), (8, .int (nb (h + 1))), (7, .int (nb (w 1))), (6, .int (nb 1)), (5, .int (nb H)), (4, .int (nb M)), (3, .int (nb t)), (2, .int (nb (w 0))), (0, .ref (ad 0)), (1, .ref a)] dL_foretold_104 rfl (by decide) rfl ?_
        refine g_iconst 107 C (nb 0) dL_foretold_106 rfl (by decide) ?_
        refine g_istore 109 C [(11, .int (nb 0)), (10, .int (nb 0)), (9, .int (nb tk)), (8, .int (nb (h + 1))), (7, .int (nb (w 1))), (6, .int (nb 1)), (5, .int (nb H)), (4, .int (nb M)), (3, .int (nb t)), (2, .int (nb (w 0))), (0, .ref (ad 0)), (1, .ref a)] dL_foretold_107 rfl (by decide) rfl ?_
        refine g_lv (lv2 := [(11, .int (nb 0)), (10, .int (nb 0)), (9, .int (nb tk)), (8, .int (nb (h + 1))), (7, .int (nb (w 1))), (6, .int (nb 1)), (5, .int (nb H)), (4, .int (nb M)), (3, .int (nb t)), (2, .int (nb (w 0))), (0, .ref (ad 0)), (1, .ref a)]) [0, 1, 2, 3, 4, 5, 6, 7, 8, 9, 10, 11] rfl ?_
        refine LC ?_ (wx 1) 0 (by omega)
        have K184 : sg_G p l e { frames := 8, cells := 1, slots := 20, locals := 210 } s m args below meth cd D (va_A (sl_w Y ad σ (bx_W a v ++ [])) s.heap.size) 12 0 0 Q 184 [(11, .int (nb (wx 1))), (10, .int (nb (fo_s wx t (wx 1)))), (9, .int (nb tk)), (8, .int (nb (h + 1))), (7, .int (nb (w 1))), (6, .int (nb 1)), (5, .int (nb H)), (4, .int (nb M)), (3, .int (nb t)), (2, .int (nb (w 0))), (0, .ref (ad 0)), (1, .ref a)] [.int (nb (if h + 1 = H then 1 else 0))] (sl_w Y ad σx (bx_W a u2 ++ [])) := by
          refine g_istore 186 C [(11, .int (nb (if h + 1 = H then 1 else 0))), (10, .int (nb (fo_s wx t (wx 1)))), (9, .int (nb tk)), (8, .int (nb (h + 1))), (7, .int (nb (w 1))), (6, .int (nb 1)), (5, .int (nb H)), (4, .int (nb M)), (3, .int (nb t)), (2, .int (nb (w 0))), (0, .ref (ad 0)), (1, .ref a)] dL_foretold_184 rfl (by decide) rfl ?_
          refine g_iload 188 C dL_foretold_186 rfl rfl ?_
          refine g_iload 190 C dL_foretold_188 rfl rfl ?_
          refine g_iload 192 C dL_foretold_190 rfl rfl ?_
          refine g_iload 194 C dL_foretold_192 rfl rfl ?_
          have K202 : sg_G p l e { frames := 8, cells := 1, slots := 20, locals := 210 } s m args below meth cd D (va_A (sl_w Y ad σ (bx_W a v ++ [])) s.heap.size) 12 0 0 Q 202 [(11, .int (nb (if h + 1 = H then 1 else 0))), (10, .int (nb (fo_s wx t (wx 1)))), (9, .int (nb tk)), (8, .int (nb (h + 1))), (7, .int (nb (w 1))), (6, .int (nb 1)), (5, .int (nb H)), (4, .int (nb M)), (3, .int (nb t)), (2, .int (nb (w 0))), (0, .ref (ad 0)), (1, .ref a)] [.int (nb (if h + 1 = H then 1 else 0)), .int (nb (if h + 1 = H then 1 else 0)), .int (nb 1)] (sl_w Y ad σx (bx_W a u2 ++ [])) := by
            refine g_icmp_ne 205 217 C dL_foretold_202 (by decide) rfl (T := none) (E := some ()) (v := ()) (if_pos rfl) (fun h => by cases h) (fun _ => ?_)
            refine g_aload_n 206 C dL_foretold_205 rfl rfl rfl ?_
            obtain ⟨σr, er, hrx, hAr⟩ := cl_restore hAx hSx hA.2.1
            refine lc_restore 209 C gL_foretold_X7_restore ⟨(Nat.le_of_ble_eq_true rfl), (Nat.le_of_ble_eq_true rfl)⟩ (Nat.le_of_ble_eq_true rfl) er ⟨(Nat.le_of_ble_eq_true rfl), (Nat.le_of_ble_eq_true rfl)⟩ dL_foretold_206 rfl ?_
            rw [kb_re hrx]
            refine g_iload_n 210 C dL_foretold_209 rfl rfl rfl ?_
            refine g_icmp_ne 213 217 C dL_foretold_210 (by decide) rfl (T := none) (E := some ()) (v := ()) (if_pos rfl) (fun h => by cases h) (fun _ => ?_)
            refine g_iconst 214 C (nb 1) dL_foretold_213 rfl (by decide) ?_
            refine g_goto 218 C dL_foretold_214 (by decide) ?_
            refine g_iand 219 C dL_foretold_218 rfl ?_
            refine g_top (v := (nb 1)) (by decide) ?_
            refine g_istore 221 C [(6, .int (nb 1)), (11, .int (nb (if h + 1 = H then 1 else 0))), (10, .int (nb (fo_s wx t (wx 1)))), (9, .int (nb tk)), (8, .int (nb (h + 1))), (7, .int (nb (w 1))), (5, .int (nb H)), (4, .int (nb M)), (3, .int (nb t)), (2, .int (nb (w 0))), (0, .ref (ad 0)), (1, .ref a)] dL_foretold_219 rfl (by decide) rfl ?_
            refine g_lv (lv2 := [(8, .int (nb (h + 1))), (7, .int (nb (w 1))), (6, .int (nb 1)), (5, .int (nb H)), (4, .int (nb M)), (3, .int (nb t)), (2, .int (nb (w 0))), (0, .ref (ad 0)), (1, .ref a)]) [4, 5, 0, 6, 7, 8, 9, 10, 11] rfl ?_
            refine g_iinc 224 C 0 (nb h) [(8, .int (nb h)), (7, .int (nb (w 1))), (6, .int (nb 1)), (5, .int (nb H)), (4, .int (nb M)), (3, .int (nb t)), (2, .int (nb (w 0))), (0, .ref (ad 0)), (1, .ref a)] dL_foretold_221 rfl rfl (nb_dec h) (by decide) rfl ?_
            refine g_goto 44 C dL_foretold_224 (by decide) ?_
            exact ih (by omega) (by omega) 0 σr hAr (re_S hSx hJ1 hrx)
          by_cases q : h + 1 = H
          · skip
            refine g_icmp_ne 197 201 C dL_foretold_194 (by decide) rfl (T := none) (E := some ()) (v := ()) (if_pos (by rw [q])) (fun h => by cases h) (fun _ => ?_)
            refine g_iconst 198 C (nb 1) dL_foretold_197 rfl (by decide) ?_
            refine g_goto 202 C dL_foretold_198 (by decide) ?_
            refine g_top (v := (nb (if h + 1 = H then 1 else 0))) (by rw [if_pos q]) ?_
            exact K202
          · skip
            refine g_icmp_ne 197 201 C dL_foretold_194 (by decide) rfl (T := some ()) (E := none) (v := ()) (if_neg (nb_ne q (by omega) (by omega))) (fun _ => ?_) (fun h => by cases h)
            refine g_iconst 202 C (nb 0) dL_foretold_201 rfl (by decide) ?_
            refine g_top (v := (nb (if h + 1 = H then 1 else 0))) (by rw [if_neg q]) ?_
            exact K202
        refine g_iload 165 C dL_foretold_163 rfl rfl ?_
        rcases ht9 with ⟨rfl, hcr, hwp⟩ | ⟨rfl, hcr⟩
        · skip
          have hok := wm_okI hmx hAx.2.1 hwp ht
          have hBx := fo_B (w := wx) (t := t) (fun c hc => (hx6 c hc).2.2.1) (wx 1) (Nat.le_refl _)
          have hsn := (hx3 t ht).1
          refine g_if_eq 168 183 C dL_foretold_165 (by decide) rfl (T := none) (E := some ()) (v := ()) (if_neg (by decide)) (fun h => by cases h) (fun _ => ?_)
          refine g_iload 170 C dL_foretold_168 rfl rfl ?_
          refine g_aload_n 171 C dL_foretold_170 rfl rfl rfl ?_
          refine g_iload_n 172 C dL_foretold_171 rfl rfl rfl ?_
          refine g_iconst 173 C (nb 0) dL_foretold_172 rfl (by decide) ?_
          refine lc_townOf 176 C gL_foretold_X7_townOf ⟨(Nat.le_of_ble_eq_true rfl), (Nat.le_of_ble_eq_true rfl)⟩ (Nat.le_of_ble_eq_true rfl) (k_t0 hAx ht) ⟨(Nat.le_of_ble_eq_true rfl), (Nat.le_of_ble_eq_true rfl)⟩ dL_foretold_173 rfl ?_
          by_cases q : fo_s wx t (wx 1) ≤ wx (10 + 4 * t)
          · skip
            refine g_icmp_gt 179 183 C dL_foretold_176 (by decide) rfl (T := none) (E := some ()) (v := ()) (if_pos (nb_le_t q (by omega))) (fun h => by cases h) (fun _ => ?_)
            refine g_iconst 180 C (nb 1) dL_foretold_179 rfl (by decide) ?_
            refine g_goto 184 C dL_foretold_180 (by decide) ?_
            refine g_top (v := (nb (if h + 1 = H then 1 else 0))) (by rw [if_pos (Decidable.byContradiction (fun n => hmo.2.2 (h + 1) (by omega) (by omega) ⟨hcr, hok.mpr q⟩))]) ?_
            exact K184
          · skip
            refine g_icmp_gt 179 183 C dL_foretold_176 (by decide) rfl (T := some ()) (E := none) (v := ()) (if_neg (nb_le_f (by omega) (by omega))) (fun _ => ?_) (fun h => by cases h)
            refine g_iconst 184 C (nb 0) dL_foretold_183 rfl (by decide) ?_
            refine g_top (v := (nb (if h + 1 = H then 1 else 0))) (by rw [if_neg (fun n => q (hok.mp (by have := (hmo.2.1 (by omega)).2; rw [← n] at this; exact this)))]) ?_
            exact K184
        · skip
          refine g_if_eq 168 183 C dL_foretold_165 (by decide) rfl (T := some ()) (E := none) (v := ()) (if_pos rfl) (fun _ => ?_) (fun h => by cases h)
          refine g_iconst 184 C (nb 0) dL_foretold_183 rfl (by decide) ?_
          refine g_top (v := (nb (if h + 1 = H then 1 else 0))) (by rw [if_neg (fun n => hcr (by have := (hmo.2.1 (by omega)).1; rw [← n] at this; exact this))]) ?_
          exact K184
      refine g_iload 46 C dL_foretold_44 rfl rfl ?_
      refine g_iconst 47 C (nb 1) dL_foretold_46 rfl (by decide) ?_
      refine g_iload 49 C dL_foretold_47 rfl rfl ?_
      refine g_mmax 52 C ksL_foretold_m1 ksL_foretold_m2 ksL_foretold_m3 ksL_foretold_m4 (Nat.le_of_ble_eq_true rfl) (Nat.le_of_ble_eq_true rfl) (Nat.le_of_ble_eq_true rfl) (Nat.le_of_ble_eq_true rfl) dL_foretold_49 rfl ?_
      refine g_top (v := (nb (max 1 H))) (bx_max H (by omega)).symm ?_
      by_cases q : h + 1 < max 1 H
      · skip
        refine g_icmp_lt 55 227 C dL_foretold_52 (by decide) rfl (T := some ()) (E := none) (v := ()) (if_neg (nb_le_f (by omega) (by omega))) (fun _ => ?_) (fun h => by cases h)
        exact hend (h + 1) c σ2 hA2 hS2
      · skip
        refine g_icmp_lt 55 227 C dL_foretold_52 (by decide) rfl (T := none) (E := some ()) (v := ()) (if_pos (nb_le_t (by omega) (by omega))) (fun h => by cases h) (fun _ => ?_)
        refine g_aload_n 56 C dL_foretold_55 rfl rfl rfl ?_
        refine g_iload_n 57 C dL_foretold_56 rfl rfl rfl ?_
        refine g_iload 59 C dL_foretold_57 rfl rfl ?_
        refine g_iload 61 C dL_foretold_59 rfl rfl ?_
        obtain ⟨r, σ3, e3, hF3, hC3⟩ := cl_credit hA2 (by omega) ht (by omega : 1 ≤ h + 1) (by omega) hM1 hM6
        have hS3 : cl_S w σ3 := cl_Sx hS2 hJ1 (ch_F hA2 (by omega) (k := 2) (by decide) _ _ _ (ch_bnd e3) hF3)
        refine lc_credit 64 C gL_foretold_X7_credit ⟨(Nat.le_of_ble_eq_true rfl), (Nat.le_of_ble_eq_true rfl)⟩ (Nat.le_of_ble_eq_true rfl) e3 ⟨(Nat.le_of_ble_eq_true rfl), (Nat.le_of_ble_eq_true rfl)⟩ dL_foretold_61 rfl ?_
        rw [kb_ch hF3]
        refine g_iload 66 C dL_foretold_64 rfl rfl ?_
        rcases hC3 with ⟨n, w2, er, hn, hA3, hu3, hn2, hw2, hcr⟩ | ⟨er, hA3, hcr⟩
        · skip
          rw [hw2] at hA3
          refine g_icmp_ne 69 73 C dL_foretold_66 (by decide) rfl (T := none) (E := some ()) (v := ()) (if_pos (by rw [er, hn2])) (fun h => by cases h) (fun _ => ?_)
          refine g_iconst 70 C (nb 1) dL_foretold_69 rfl (by decide) ?_
          refine g_goto 74 C dL_foretold_70 (by decide) ?_
          refine g_istore 76 C [(9, .int (nb 1)), (8, .int (nb (h + 1))), (7, .int (nb (w 1))), (6, .int (nb 1)), (5, .int (nb H)), (4, .int (nb M)), (3, .int (nb t)), (2, .int (nb (w 0))), (0, .ref (ad 0)), (1, .ref a)] dL_foretold_74 rfl (by decide) rfl ?_
          refine g_iconst 77 C (nb 1) dL_foretold_76 rfl (by decide) ?_
          refine g_istore 79 C [(10, .int (nb 1)), (9, .int (nb 1)), (8, .int (nb (h + 1))), (7, .int (nb (w 1))), (6, .int (nb 1)), (5, .int (nb H)), (4, .int (nb M)), (3, .int (nb t)), (2, .int (nb (w 0))), (0, .ref (ad 0)), (1, .ref a)] dL_foretold_77 rfl (by decide) rfl ?_
          refine g_lv (lv2 := [(10, .int (nb 1)), (9, .int (nb 1)), (8, .int (nb (h + 1))), (7, .int (nb (w 1))), (6, .int (nb 1)), (5, .int (nb H)), (4, .int (nb M)), (3, .int (nb t)), (2, .int (nb (w 0))), (0, .ref (ad 0)), (1, .ref a)]) [0, 1, 2, 3, 4, 5, 6, 7, 8, 9, 10] rfl ?_
          have LM : ∀ (d k mx : Nat) (wx : Nat → Nat) (cx : Nat) (σx : sg_S), k + d = M → 1 ≤ k → cl_A mx wx cx σx → cl_S w σx → mx ≤ m0 + k → wm_P (k - 1) (gl_w w t (h + 1) M) wx → sg_G p l e { frames := 8, cells := 1, slots := 20, locals := 210 } s m args below meth cd D (va_A (sl_w Y ad σ (bx_W a v ++ [])) s.heap.size) 12 0 0 Q 79 [(10, .int (nb k)), (9, .int (nb 1)), (8, .int (nb (h + 1))), (7, .int (nb (w 1))), (6, .int (nb 1)), (5, .int (nb H)), (4, .int (nb M)), (3, .int (nb t)), (2, .int (nb (w 0))), (0, .ref (ad 0)), (1, .ref a)] [] (sl_w Y ad σx (bx_W a u2 ++ [])) := by
            intro d
            induction d with
            | zero =>
              intro k mx wx cx σx h1 hk1 hAx hSx hmx hP
              refine g_iload 81 C dL_foretold_79 rfl rfl ?_
              refine g_iload 83 C dL_foretold_81 rfl rfl ?_
              refine g_icmp_ge 86 103 C dL_foretold_83 (by decide) rfl (T := some ()) (E := none) (v := ()) (if_neg (nb_lt_f (by omega) (by omega))) (fun _ => ?_) (fun h => by cases h)
              have hk : k = M := by omega
              rw [hk] at hP
              exact K103 (by omega) 1 (nb k) mx wx cx σx hAx hSx (by omega) (Or.inl ⟨rfl, hcr, hP⟩)
            | succ d ihm =>
              intro k mx wx cx σx h1 hk1 hAx hSx hmx hP
              refine g_iload 81 C dL_foretold_79 rfl rfl ?_
              refine g_iload 83 C dL_foretold_81 rfl rfl ?_
              refine g_icmp_ge 86 103 C dL_foretold_83 (by decide) rfl (T := none) (E := some ()) (v := ()) (if_pos (nb_lt_t (by omega) (by omega))) (fun h => by cases h) (fun _ => ?_)
              refine g_iload 88 C dL_foretold_86 rfl rfl ?_
              refine g_if_eq 91 103 C dL_foretold_88 (by decide) rfl (T := none) (E := some ()) (v := ()) (if_neg (by decide)) (fun h => by cases h) (fun _ => ?_)
              refine g_aload_n 92 C dL_foretold_91 rfl rfl rfl ?_
              obtain ⟨rm, σy, ey, hFy, hCy⟩ := cl_month hAx (by omega) hP
              have hSy : cl_S w σy := cl_Sx hSx hJ1 (ch_F hAx (by omega) (k := 7) (by decide) _ _ _ (ch_bnd ey) hFy)
              refine lc_month 95 C gL_foretold_X7_month ⟨(Nat.le_of_ble_eq_true rfl), (Nat.le_of_ble_eq_true rfl)⟩ (Nat.le_of_ble_eq_true rfl) ey ⟨(Nat.le_of_ble_eq_true rfl), (Nat.le_of_ble_eq_true rfl)⟩ dL_foretold_92 rfl ?_
              rw [kb_ch hFy]
              rcases hCy with ⟨ny, wy, ery, hny, hAy, huy, hPy⟩ | ⟨_, _, hno⟩
              · skip
                refine g_istore 97 C [(11, .int rm), (10, .int (nb k)), (9, .int (nb 1)), (8, .int (nb (h + 1))), (7, .int (nb (w 1))), (6, .int (nb 1)), (5, .int (nb H)), (4, .int (nb M)), (3, .int (nb t)), (2, .int (nb (w 0))), (0, .ref (ad 0)), (1, .ref a)] dL_foretold_95 rfl (by decide) rfl ?_
                refine g_iinc 100 C 1 (nb (k + 1)) [(10, .int (nb (k + 1))), (11, .int rm), (9, .int (nb 1)), (8, .int (nb (h + 1))), (7, .int (nb (w 1))), (6, .int (nb 1)), (5, .int (nb H)), (4, .int (nb M)), (3, .int (nb t)), (2, .int (nb (w 0))), (0, .ref (ad 0)), (1, .ref a)] dL_foretold_97 rfl rfl (nb_succ k) (by decide) rfl ?_
                refine g_goto 79 C dL_foretold_100 (by decide) ?_
                refine g_lv (lv2 := [(10, .int (nb (k + 1))), (9, .int (nb 1)), (8, .int (nb (h + 1))), (7, .int (nb (w 1))), (6, .int (nb 1)), (5, .int (nb H)), (4, .int (nb M)), (3, .int (nb t)), (2, .int (nb (w 0))), (0, .ref (ad 0)), (1, .ref a)]) [0, 2, 3, 4, 5, 6, 7, 8, 9, 10, 11] rfl ?_
                rw [(by omega : k - 1 + 1 = k + 1 - 1)] at hPy
                exact ihm (k + 1) (mx + 1) wy (hs_c cx) σy (by omega) (by omega) hAy hSy (by omega) hPy
              · exact hno.elim
          exact LM (M - 1) 1 (m0 + 1) _ _ σ3 (by omega) (by omega) hA3 hS3 (by omega) (wm_r _)
        · skip
          refine g_icmp_ne 69 73 C dL_foretold_66 (by decide) rfl (T := some ()) (E := none) (v := ()) (if_neg (fun n => cl_nn er (by rw [n]; exact nb_0le (by omega)))) (fun _ => ?_) (fun h => by cases h)
          refine g_iconst 74 C (nb 0) dL_foretold_73 rfl (by decide) ?_
          refine g_istore 76 C [(9, .int (nb 0)), (8, .int (nb (h + 1))), (7, .int (nb (w 1))), (6, .int (nb 1)), (5, .int (nb H)), (4, .int (nb M)), (3, .int (nb t)), (2, .int (nb (w 0))), (0, .ref (ad 0)), (1, .ref a)] dL_foretold_74 rfl (by decide) rfl ?_
          refine g_iconst 77 C (nb 1) dL_foretold_76 rfl (by decide) ?_
          refine g_istore 79 C [(10, .int (nb 1)), (9, .int (nb 0)), (8, .int (nb (h + 1))), (7, .int (nb (w 1))), (6, .int (nb 1)), (5, .int (nb H)), (4, .int (nb M)), (3, .int (nb t)), (2, .int (nb (w 0))), (0, .ref (ad 0)), (1, .ref a)] dL_foretold_77 rfl (by decide) rfl ?_
          refine g_iload 81 C dL_foretold_79 rfl rfl ?_
          refine g_iload 83 C dL_foretold_81 rfl rfl ?_
          by_cases qm : M ≤ 1
          · skip
            refine g_icmp_ge 86 103 C dL_foretold_83 (by decide) rfl (T := some ()) (E := none) (v := ()) (if_neg (nb_lt_f (by omega) (by omega))) (fun _ => ?_) (fun h => by cases h)
            refine g_lv (lv2 := [(10, .int (nb 1)), (9, .int (nb 0)), (8, .int (nb (h + 1))), (7, .int (nb (w 1))), (6, .int (nb 1)), (5, .int (nb H)), (4, .int (nb M)), (3, .int (nb t)), (2, .int (nb (w 0))), (0, .ref (ad 0)), (1, .ref a)]) [0, 1, 2, 3, 4, 5, 6, 7, 8, 9, 10] rfl ?_
            exact K103 (by omega) 0 (nb 1) m0 w c σ3 hA3 hS3 (by omega) (Or.inr ⟨rfl, hcr⟩)
          · skip
            refine g_icmp_ge 86 103 C dL_foretold_83 (by decide) rfl (T := none) (E := some ()) (v := ()) (if_pos (nb_lt_t (by omega) (by omega))) (fun h => by cases h) (fun _ => ?_)
            refine g_iload 88 C dL_foretold_86 rfl rfl ?_
            refine g_if_eq 91 103 C dL_foretold_88 (by decide) rfl (T := some ()) (E := none) (v := ()) (if_pos rfl) (fun _ => ?_) (fun h => by cases h)
            refine g_lv (lv2 := [(10, .int (nb 1)), (9, .int (nb 0)), (8, .int (nb (h + 1))), (7, .int (nb (w 1))), (6, .int (nb 1)), (5, .int (nb H)), (4, .int (nb M)), (3, .int (nb t)), (2, .int (nb (w 0))), (0, .ref (ad 0)), (1, .ref a)]) [0, 1, 2, 3, 4, 5, 6, 7, 8, 9, 10] rfl ?_
            exact K103 (by omega) 0 (nb 1) m0 w c σ3 hA3 hS3 (by omega) (Or.inr ⟨rfl, hcr⟩)
  have hH20 := hmo.1
  refine F1 (fun h c σ2 hA2 hS2 => ?_) 20 (by omega) (by omega) c0 σ1 hA1 hS1
  · skip
    refine g_aload_n 228 C dL_foretold_227 rfl rfl rfl ?_
    refine g_iconst 229 C (nb 4) dL_foretold_228 rfl (by decide) ?_
    refine lb_next 232 C gL_foretold_X8_next ⟨(Nat.le_of_ble_eq_true rfl), (Nat.le_of_ble_eq_true rfl)⟩ (Nat.le_of_ble_eq_true rfl) (by decide) (by decide) ⟨(Nat.le_of_ble_eq_true rfl), (Nat.le_of_ble_eq_true rfl)⟩ dL_foretold_229 rfl (fun n u3 hn => ?_)
    refine g_istore 234 C [(8, .int (nb n)), (7, .int (nb (w 1))), (6, .int (nb 1)), (5, .int (nb H)), (4, .int (nb M)), (3, .int (nb t)), (2, .int (nb (w 0))), (0, .ref (ad 0)), (1, .ref a)] dL_foretold_232 rfl (by decide) rfl ?_
    refine g_bipush 236 C (nb 20) dL_foretold_234 rfl (by decide) ?_
    refine ls_newI 238 C (N := 20) ksL_foretold_ai (by decide) rfl (by decide) ⟨(Nat.le_of_ble_eq_true rfl), (Nat.le_of_ble_eq_true rfl)⟩ dL_foretold_236 rfl (fun q => ?_)
    refine g_astore 240 C [(9, .ref q), (8, .int (nb n)), (7, .int (nb (w 1))), (6, .int (nb 1)), (5, .int (nb H)), (4, .int (nb M)), (3, .int (nb t)), (2, .int (nb (w 0))), (0, .ref (ad 0)), (1, .ref a)] dL_foretold_238 rfl (by decide) rfl ?_
    refine g_iconst 241 C (nb 0) dL_foretold_240 rfl (by decide) ?_
    refine g_istore 243 C [(10, .int (nb 0)), (9, .ref q), (8, .int (nb n)), (7, .int (nb (w 1))), (6, .int (nb 1)), (5, .int (nb H)), (4, .int (nb M)), (3, .int (nb t)), (2, .int (nb (w 0))), (0, .ref (ad 0)), (1, .ref a)] dL_foretold_241 rfl (by decide) rfl ?_
    refine g_lv (lv2 := [(10, .int (nb 0)), (9, .ref q), (8, .int (nb n)), (7, .int (nb (w 1))), (6, .int (nb 1)), (5, .int (nb H)), (4, .int (nb M)), (3, .int (nb t)), (2, .int (nb (w 0))), (0, .ref (ad 0)), (1, .ref a)]) [0, 1, 2, 3, 4, 5, 6, 7, 8, 9, 10] rfl ?_
    obtain ⟨_, ws, _, _, hPs, hIs⟩ := cl_would (t := 0) (q := 0) hA2 (by omega) (by decide) (by omega : n ≤ 24) (by decide)
    have LW : (∀ (σ2 : sg_S), cl_A m0 w c σ2 → cl_S w σ2 → sg_G p l e { frames := 8, cells := 1, slots := 20, locals := 210 } s m args below meth cd D (va_A (sl_w Y ad σ (bx_W a v ++ [])) s.heap.size) 12 1 20 Q 275 [(10, .int (nb 20)), (9, .ref q), (8, .int (nb n)), (7, .int (nb (w 1))), (6, .int (nb 1)), (5, .int (nb H)), (4, .int (nb M)), (3, .int (nb t)), (2, .int (nb (w 0))), (0, .ref (ad 0)), (1, .ref a)] [] (sl_w Y ad σ2 (ca_A Y q 20 (fun i => if i < 20 then ws (10 + 4 * (i / 4) + i % 4) else 0) :: (bx_W a u3 ++ [])))) → ∀ (d k : Nat) (σ2 : sg_S), k + d = 20 → cl_A m0 w c σ2 → cl_S w σ2 → sg_G p l e { frames := 8, cells := 1, slots := 20, locals := 210 } s m args below meth cd D (va_A (sl_w Y ad σ (bx_W a v ++ [])) s.heap.size) 12 1 20 Q 243 [(10, .int (nb k)), (9, .ref q), (8, .int (nb n)), (7, .int (nb (w 1))), (6, .int (nb 1)), (5, .int (nb H)), (4, .int (nb M)), (3, .int (nb t)), (2, .int (nb (w 0))), (0, .ref (ad 0)), (1, .ref a)] [] (sl_w Y ad σ2 (ca_A Y q 20 (fun i => if i < k then ws (10 + 4 * (i / 4) + i % 4) else 0) :: (bx_W a u3 ++ []))) := by
      intro hend d
      induction d with
      | zero =>
        intro k σ2 h1 hA2 hS2
        refine g_iload 245 C dL_foretold_243 rfl rfl ?_
        refine g_bipush 247 C (nb 20) dL_foretold_245 rfl (by decide) ?_
        refine g_icmp_ge 250 275 C dL_foretold_247 (by decide) rfl (T := some ()) (E := none) (v := ()) (if_neg (nb_lt_f (by omega) (by omega))) (fun _ => ?_) (fun h => by cases h)
        have hk : k = 20 := by omega
        subst hk
        exact hend σ2 hA2 hS2
      | succ d ih =>
        intro k σ2 h1 hA2 hS2
        refine g_iload 245 C dL_foretold_243 rfl rfl ?_
        refine g_bipush 247 C (nb 20) dL_foretold_245 rfl (by decide) ?_
        refine g_icmp_ge 250 275 C dL_foretold_247 (by decide) rfl (T := none) (E := some ()) (v := ()) (if_pos (nb_lt_t (by omega) (by omega))) (fun h => by cases h) (fun _ => ?_)
        refine g_aload 252 C dL_foretold_250 rfl rfl ?_
        refine g_iload 254 C dL_foretold_252 rfl rfl ?_
        refine g_aload_n 255 C dL_foretold_254 rfl rfl rfl ?_
        refine g_iload 257 C dL_foretold_255 rfl rfl ?_
        refine g_iconst 258 C (nb 4) dL_foretold_257 rfl (by decide) ?_
        refine g_idivc 259 C dL_foretold_258 rfl (by decide) ?_
        refine g_top (v := (nb (k / 4))) (nb_div (by omega) (by decide)).symm ?_
        refine g_iload 261 C dL_foretold_259 rfl rfl ?_
        refine g_iload 263 C dL_foretold_261 rfl rfl ?_
        refine g_iconst 264 C (nb 4) dL_foretold_263 rfl (by decide) ?_
        refine g_iremc 265 C dL_foretold_264 rfl (by decide) ?_
        refine g_top (v := (nb (k % 4))) (bx_rem (by omega) (by decide)).symm ?_
        obtain ⟨σw, w2, ew, fw, hPw, hIw⟩ := cl_would (t := k / 4) (q := k % 4) hA2 (by omega) (by omega) (by omega : n ≤ 24) (by omega)
        have hE := wm_eq hPw hPs hIw hIs (by omega) (by omega)
        refine lc_would 268 C gL_foretold_X7_would ⟨(Nat.le_of_ble_eq_true rfl), (Nat.le_of_ble_eq_true rfl)⟩ (Nat.le_of_ble_eq_true rfl) ew ⟨(Nat.le_of_ble_eq_true rfl), (Nat.le_of_ble_eq_true rfl)⟩ dL_foretold_265 rfl ?_
        have f5 := mg_f1 (b := kb_TNR) fw
        have hA5 := cl_Af hA2 f5
        have hS5 := cl_QS hS2 hJ1 (cl_Qf f5)
        generalize sg_mg kb_TNR σ2 σw = σ5 at f5 hA5 hS5
        skip
        refine g_top (v := (nb (ws (10 + 4 * (k / 4) + k % 4)))) (congrArg nb (hE.1 _ (by omega)).symm) ?_
        refine ca_put 269 C 0 (g := fun i => if i < k then ws (10 + 4 * (i / 4) + i % 4) else 0) (g2 := fun i => if i < k + 1 then ws (10 + 4 * (i / 4) + i % 4) else 0) (N := 20) (X2 := ca_A Y q 20 (fun i => if i < k + 1 then ws (10 + 4 * (i / 4) + i % 4) else 0) :: (bx_W a u3 ++ [])) rfl (by omega) (by decide) (fo_g k) rfl dL_foretold_268 rfl ?_
        refine g_iinc 272 C 0 (nb (k + 1)) [(10, .int (nb (k + 1))), (9, .ref q), (8, .int (nb n)), (7, .int (nb (w 1))), (6, .int (nb 1)), (5, .int (nb H)), (4, .int (nb M)), (3, .int (nb t)), (2, .int (nb (w 0))), (0, .ref (ad 0)), (1, .ref a)] dL_foretold_269 rfl rfl (nb_succ k) (by decide) rfl ?_
        refine g_goto 243 C dL_foretold_272 (by decide) ?_
        exact ih (k + 1) σ5 (by omega) hA5 hS5
    have LN : (∀ (k mx : Nat) (wx : Nat → Nat) (cx : Nat) (σx : sg_S), cl_A mx wx cx σx → cl_S w σx → mx ≤ m0 + n → wm_P n w wx → sg_G p l e { frames := 8, cells := 1, slots := 20, locals := 210 } s m args below meth cd D (va_A (sl_w Y ad σ (bx_W a v ++ [])) s.heap.size) 12 1 20 Q 297 [(10, .int (nb k)), (9, .ref q), (8, .int (nb n)), (7, .int (nb (w 1))), (6, .int (nb 1)), (5, .int (nb H)), (4, .int (nb M)), (3, .int (nb t)), (2, .int (nb (w 0))), (0, .ref (ad 0)), (1, .ref a)] [] (sl_w Y ad σx (ca_A Y q 20 (fun i => if i < 20 then ws (10 + 4 * (i / 4) + i % 4) else 0) :: (bx_W a u3 ++ [])))) → ∀ (d k mx : Nat) (wx : Nat → Nat) (cx : Nat) (σx : sg_S), k + d = n → cl_A mx wx cx σx → cl_S w σx → mx ≤ m0 + k → wm_P k w wx → sg_G p l e { frames := 8, cells := 1, slots := 20, locals := 210 } s m args below meth cd D (va_A (sl_w Y ad σ (bx_W a v ++ [])) s.heap.size) 12 1 20 Q 278 [(10, .int (nb k)), (9, .ref q), (8, .int (nb n)), (7, .int (nb (w 1))), (6, .int (nb 1)), (5, .int (nb H)), (4, .int (nb M)), (3, .int (nb t)), (2, .int (nb (w 0))), (0, .ref (ad 0)), (1, .ref a)] [] (sl_w Y ad σx (ca_A Y q 20 (fun i => if i < 20 then ws (10 + 4 * (i / 4) + i % 4) else 0) :: (bx_W a u3 ++ []))) := by
      intro hend d
      induction d with
      | zero =>
        intro k mx wx cx σx h1 hAx hSx hmx hP
        refine g_iload 280 C dL_foretold_278 rfl rfl ?_
        refine g_iload 282 C dL_foretold_280 rfl rfl ?_
        refine g_icmp_ge 285 297 C dL_foretold_282 (by decide) rfl (T := some ()) (E := none) (v := ()) (if_neg (nb_lt_f (by omega) (by omega))) (fun _ => ?_) (fun h => by cases h)
        have hk : k = n := by omega
        rw [hk] at hP hmx
        exact hend k mx wx cx σx hAx hSx hmx hP
      | succ d ih =>
        intro k mx wx cx σx h1 hAx hSx hmx hP
        refine g_iload 280 C dL_foretold_278 rfl rfl ?_
        refine g_iload 282 C dL_foretold_280 rfl rfl ?_
        refine g_icmp_ge 285 297 C dL_foretold_282 (by decide) rfl (T := none) (E := some ()) (v := ()) (if_pos (nb_lt_t (by omega) (by omega))) (fun h => by cases h) (fun _ => ?_)
        refine g_aload_n 286 C dL_foretold_285 rfl rfl rfl ?_
        obtain ⟨rm, σy, ey, hFy, hCy⟩ := cl_month hAx (by omega) hP
        have hSy : cl_S w σy := cl_Sx hSx hJ1 (ch_F hAx (by omega) (k := 7) (by decide) _ _ _ (ch_bnd ey) hFy)
        refine lc_month 289 C gL_foretold_X7_month ⟨(Nat.le_of_ble_eq_true rfl), (Nat.le_of_ble_eq_true rfl)⟩ (Nat.le_of_ble_eq_true rfl) ey ⟨(Nat.le_of_ble_eq_true rfl), (Nat.le_of_ble_eq_true rfl)⟩ dL_foretold_286 rfl ?_
        rw [kb_ch hFy]
        rcases hCy with ⟨ny, wy, ery, hny, hAy, huy, hPy⟩ | ⟨_, _, hno⟩
        · skip
          refine g_istore 291 C [(11, .int rm), (10, .int (nb k)), (9, .ref q), (8, .int (nb n)), (7, .int (nb (w 1))), (6, .int (nb 1)), (5, .int (nb H)), (4, .int (nb M)), (3, .int (nb t)), (2, .int (nb (w 0))), (0, .ref (ad 0)), (1, .ref a)] dL_foretold_289 rfl (by decide) rfl ?_
          refine g_iinc 294 C 1 (nb (k + 1)) [(10, .int (nb (k + 1))), (11, .int rm), (9, .ref q), (8, .int (nb n)), (7, .int (nb (w 1))), (6, .int (nb 1)), (5, .int (nb H)), (4, .int (nb M)), (3, .int (nb t)), (2, .int (nb (w 0))), (0, .ref (ad 0)), (1, .ref a)] dL_foretold_291 rfl rfl (nb_succ k) (by decide) rfl ?_
          refine g_goto 278 C dL_foretold_294 (by decide) ?_
          refine g_lv (lv2 := [(10, .int (nb (k + 1))), (9, .ref q), (8, .int (nb n)), (7, .int (nb (w 1))), (6, .int (nb 1)), (5, .int (nb H)), (4, .int (nb M)), (3, .int (nb t)), (2, .int (nb (w 0))), (0, .ref (ad 0)), (1, .ref a)]) [0, 2, 3, 4, 5, 6, 7, 8, 9, 10, 11] rfl ?_
          exact ih (k + 1) (mx + 1) wy (hs_c cx) σy (by omega) hAy hSy (by omega) hPy
        · exact hno.elim
    have LD : ∀ (mx : Nat) (wx : Nat → Nat) (cx : Nat) (σx : sg_S), cl_A mx wx cx σx → wm_E wx ws → sg_G p l e { frames := 8, cells := 1, slots := 20, locals := 210 } s m args below meth cd D (va_A (sl_w Y ad σ (bx_W a v ++ [])) s.heap.size) 12 1 20 Q 343 [(10, .int (nb 20)), (9, .ref q), (8, .int (nb n)), (7, .int (nb (w 1))), (6, .int (nb 1)), (5, .int (nb H)), (4, .int (nb M)), (3, .int (nb t)), (2, .int (nb (w 0))), (0, .ref (ad 0)), (1, .ref a)] [] (sl_w Y ad σx (ca_A Y q 20 (fun i => if i < 20 then ws (10 + 4 * (i / 4) + i % 4) else 0) :: (bx_W a u3 ++ []))) → ∀ (d k : Nat), k + d = 20 → sg_G p l e { frames := 8, cells := 1, slots := 20, locals := 210 } s m args below meth cd D (va_A (sl_w Y ad σ (bx_W a v ++ [])) s.heap.size) 12 1 20 Q 300 [(10, .int (nb k)), (9, .ref q), (8, .int (nb n)), (7, .int (nb (w 1))), (6, .int (nb 1)), (5, .int (nb H)), (4, .int (nb M)), (3, .int (nb t)), (2, .int (nb (w 0))), (0, .ref (ad 0)), (1, .ref a)] [] (sl_w Y ad σx (ca_A Y q 20 (fun i => if i < 20 then ws (10 + 4 * (i / 4) + i % 4) else 0) :: (bx_W a u3 ++ []))) := by
      intro mx wx cx σx hAx hE hend d
      induction d with
      | zero =>
        intro k h1
        refine g_iload 302 C dL_foretold_300 rfl rfl ?_
        refine g_bipush 304 C (nb 20) dL_foretold_302 rfl (by decide) ?_
        refine g_icmp_ge 307 343 C dL_foretold_304 (by decide) rfl (T := some ()) (E := none) (v := ()) (if_neg (nb_lt_f (by omega) (by omega))) (fun _ => ?_) (fun h => by cases h)
        have hk : k = 20 := by omega
        subst hk
        exact hend
      | succ d ih =>
        intro k h1
        refine g_iload 302 C dL_foretold_300 rfl rfl ?_
        refine g_bipush 304 C (nb 20) dL_foretold_302 rfl (by decide) ?_
        refine g_icmp_ge 307 343 C dL_foretold_304 (by decide) rfl (T := none) (E := some ()) (v := ()) (if_pos (nb_lt_t (by omega) (by omega))) (fun h => by cases h) (fun _ => ?_)
        refine g_iload 309 C dL_foretold_307 rfl rfl ?_
        refine g_aload_n 310 C dL_foretold_309 rfl rfl rfl ?_
        refine g_iload 312 C dL_foretold_310 rfl rfl ?_
        refine g_iconst 313 C (nb 4) dL_foretold_312 rfl (by decide) ?_
        refine g_idivc 314 C dL_foretold_313 rfl (by decide) ?_
        refine g_top (v := (nb (k / 4))) (nb_div (by omega) (by decide)).symm ?_
        refine g_iload 316 C dL_foretold_314 rfl rfl ?_
        refine g_iconst 317 C (nb 4) dL_foretold_316 rfl (by decide) ?_
        refine g_iremc 318 C dL_foretold_317 rfl (by decide) ?_
        refine g_top (v := (nb (k % 4))) (bx_rem (by omega) (by decide)).symm ?_
        refine lc_townOf 321 C gL_foretold_X7_townOf ⟨(Nat.le_of_ble_eq_true rfl), (Nat.le_of_ble_eq_true rfl)⟩ (Nat.le_of_ble_eq_true rfl) (ce_town hAx (by omega : k / 4 < 5) (by omega : k % 4 < 4)) ⟨(Nat.le_of_ble_eq_true rfl), (Nat.le_of_ble_eq_true rfl)⟩ dL_foretold_318 rfl ?_
        refine g_aload 323 C dL_foretold_321 rfl rfl ?_
        refine g_iload 325 C dL_foretold_323 rfl rfl ?_
        refine ca_get 326 C 0 (g := fun i => if i < 20 then ws (10 + 4 * (i / 4) + i % 4) else 0) (N := 20) rfl (by omega) (by decide) dL_foretold_325 rfl ?_
        refine g_top (v := (nb (wx (10 + 4 * (k / 4) + k % 4)))) (by show _ = nb (if k < 20 then _ else _); rw [if_pos (by omega), hE.1 _ (by omega)]) ?_
        refine g_icmp_ne 329 333 C dL_foretold_326 (by decide) rfl (T := none) (E := some ()) (v := ()) (if_pos rfl) (fun h => by cases h) (fun _ => ?_)
        refine g_iconst 330 C (nb 1) dL_foretold_329 rfl (by decide) ?_
        refine g_goto 334 C dL_foretold_330 (by decide) ?_
        refine g_iand 335 C dL_foretold_334 rfl ?_
        refine g_top (v := (nb 1)) (by decide) ?_
        refine g_istore 337 C [(6, .int (nb 1)), (10, .int (nb k)), (9, .ref q), (8, .int (nb n)), (7, .int (nb (w 1))), (5, .int (nb H)), (4, .int (nb M)), (3, .int (nb t)), (2, .int (nb (w 0))), (0, .ref (ad 0)), (1, .ref a)] dL_foretold_335 rfl (by decide) rfl ?_
        refine g_lv (lv2 := [(10, .int (nb k)), (9, .ref q), (8, .int (nb n)), (7, .int (nb (w 1))), (6, .int (nb 1)), (5, .int (nb H)), (4, .int (nb M)), (3, .int (nb t)), (2, .int (nb (w 0))), (0, .ref (ad 0)), (1, .ref a)]) [1, 2, 3, 4, 0, 5, 6, 7, 8, 9, 10] rfl ?_
        refine g_iinc 340 C 0 (nb (k + 1)) [(10, .int (nb (k + 1))), (9, .ref q), (8, .int (nb n)), (7, .int (nb (w 1))), (6, .int (nb 1)), (5, .int (nb H)), (4, .int (nb M)), (3, .int (nb t)), (2, .int (nb (w 0))), (0, .ref (ad 0)), (1, .ref a)] dL_foretold_337 rfl rfl (nb_succ k) (by decide) rfl ?_
        refine g_goto 300 C dL_foretold_340 (by decide) ?_
        exact ih (k + 1) (by omega)
    refine LW (fun σ2 hA2 hS2 => ?_) 20 0 σ2 (by omega) hA2 hS2
    refine g_iconst 276 C (nb 0) dL_foretold_275 rfl (by decide) ?_
    refine g_istore 278 C [(10, .int (nb 0)), (9, .ref q), (8, .int (nb n)), (7, .int (nb (w 1))), (6, .int (nb 1)), (5, .int (nb H)), (4, .int (nb M)), (3, .int (nb t)), (2, .int (nb (w 0))), (0, .ref (ad 0)), (1, .ref a)] dL_foretold_276 rfl (by decide) rfl ?_
    refine g_lv (lv2 := [(10, .int (nb 0)), (9, .ref q), (8, .int (nb n)), (7, .int (nb (w 1))), (6, .int (nb 1)), (5, .int (nb H)), (4, .int (nb M)), (3, .int (nb t)), (2, .int (nb (w 0))), (0, .ref (ad 0)), (1, .ref a)]) [0, 1, 2, 3, 4, 5, 6, 7, 8, 9, 10] rfl ?_
    refine LN (fun k mx wx cx σx hAx hSx hmx hP => ?_) n 0 m0 w c σ2 (by omega) hA2 hS2 (by omega) (wm_r w)
    refine g_iconst 298 C (nb 0) dL_foretold_297 rfl (by decide) ?_
    refine g_istore 300 C [(10, .int (nb 0)), (9, .ref q), (8, .int (nb n)), (7, .int (nb (w 1))), (6, .int (nb 1)), (5, .int (nb H)), (4, .int (nb M)), (3, .int (nb t)), (2, .int (nb (w 0))), (0, .ref (ad 0)), (1, .ref a)] dL_foretold_298 rfl (by decide) rfl ?_
    refine g_lv (lv2 := [(10, .int (nb 0)), (9, .ref q), (8, .int (nb n)), (7, .int (nb (w 1))), (6, .int (nb 1)), (5, .int (nb H)), (4, .int (nb M)), (3, .int (nb t)), (2, .int (nb (w 0))), (0, .ref (ad 0)), (1, .ref a)]) [0, 1, 2, 3, 4, 5, 6, 7, 8, 9, 10] rfl ?_
    refine LD mx wx cx σx hAx (wm_eq hP hPs hAx.2.1 hIs (by omega) (by omega)) ?_ 20 0 (by omega)
    refine g_aload_n 344 C dL_foretold_343 rfl rfl rfl ?_
    obtain ⟨σr, er, hrx, hAr⟩ := cl_restore hAx hSx hA.2.1
    refine lc_restore 347 C gL_foretold_X7_restore ⟨(Nat.le_of_ble_eq_true rfl), (Nat.le_of_ble_eq_true rfl)⟩ (Nat.le_of_ble_eq_true rfl) er ⟨(Nat.le_of_ble_eq_true rfl), (Nat.le_of_ble_eq_true rfl)⟩ dL_foretold_344 rfl ?_
    rw [kb_re hrx]
    refine g_iload_n 348 C dL_foretold_347 rfl rfl rfl ?_
    refine g_icmp_ne 351 360 C dL_foretold_348 (by decide) rfl (T := none) (E := some ()) (v := ()) (if_pos rfl) (fun h => by cases h) (fun _ => ?_)
    refine g_iload 353 C dL_foretold_351 rfl rfl ?_
    refine g_if_eq 356 360 C dL_foretold_353 (by decide) rfl (T := none) (E := some ()) (v := ()) (if_neg (by decide)) (fun h => by cases h) (fun _ => ?_)
    refine g_iconst 357 C (nb 1) dL_foretold_356 rfl (by decide) ?_
    refine g_goto 361 C dL_foretold_357 (by decide) ?_
    refine ls_drop (X2 := bx_W a u3 ++ []) [ca_A Y q 20 (fun i => if i < 20 then ws (10 + 4 * (i / 4) + i % 4) else 0)] (List.Perm.refl _) ?_
    exact g_iretX (P := (fun (r : Int32) (u : sg_S × Int32) => r = 1 ∧ cl_A m0 w 0 u.1)) (w' := (fun u => sl_w Y ad u.1 (bx_W a u.2 ++ []))) (σr, u3) C hr rfl hQ hsz dL_foretold_361 ⟨rfl, hAr⟩ rfl
section SLF
variable {p : Program} {l : Launch} {e : Env} {R : Room} {s : State} {m : MethodId} {args : Array Value} {below : List Frame} {meth : Method} {c : Code} {D : va_G} {Y : Nat → ClassId} {Z : (Nat → Prop) → State → Heap → Prop} {A : Nat → Prop} {nL : Nat} {cells slots : Nat} {Q : State → Prop} {cc : ByteArray} {own : String} {Ts : List Cond} {pc : Nat} {lv : List (Nat × Value)} {st : List Value} {X : va_W} {ad b : Nat → Nat} {σ κ : sg_S} {index : Nat} {jK jV jT : Nat → Nat} {f : Nat → Nat} {n0 : Nat} {m0 c0 : Nat} {w : Nat → Nat}
theorem lk_foretold (n : Nat) (C : sg_C p R s m args meth c cc nL own Ts D Y Z A) (hA : cl_A m0 w c0 σ) (hm : m0 ≤ 31) (hG : GoodIn Ts (va_wsS own index yL_foretold wsL_foretold)) (hR : 9 ≤ R.frames ∧ 241 ≤ R.locals) (hroom : (st.map fun v => v.category).sum ≤ 8) {a : Nat} {v : Int32} (hcs : cells + 1 ≤ R.cells ∧ slots + 20 ≤ R.slots) (hdg : decode cc pc = .ok (.invokestatic index, 3)) (hn : pc + 3 = n) (kk : ∀ (σ2 : sg_S) (u : Int32), cl_A m0 w 0 σ2 → sg_G p l e R s m args below meth c D A nL (cells + 1) (slots + 20) Q n lv (.int 1 :: st) (sl_w Y ad σ2 (bx_W a u ++ X))) : sg_G p l e R s m args below meth c D A nL cells slots Q pc lv (.ref a :: .ref (ad 0) :: st) (sl_w Y ad σ (bx_W a v ++ X)) := by
  refine g_XSi n C (As := [.ref (ad 0), .ref a]) (st := st) (n0 := 2) (k_foretold l C.2.2.2.2.2.2.2.1 hA hm (a := a) (v := v)) hG ⟨by decide +kernel, by decide +kernel, rfl⟩ rfl hR (sl_cutL Y ad σ (bx_W a v ++ []) X (fun _ => ad) (fun u : sg_S × Int32 => u.1) (fun u => bx_W a u.2 ++ [])) rfl hroom hcs hdg hn rfl (fun r u hu => ?_)
  obtain ⟨rfl, h1⟩ := hu
  exact kk u.1 u.2 h1
end SLF
