theorem kiX8_fail_X8 : ∀ w ∈ u_ws RX8 TX8 27, w ∈ wsX8_fail := by decide +kernel
theorem kfX8_fail_54 : Cond.fieldLink RX8 54 "WeatherMinistryModel" "fails" "I" ∈ wsX8_fail := by decide +kernel
def f_X8_fail (x1 : Int32) (σ : sg_S) : Option (Int32 × sg_S) := sg_let (sg_up σ 0 0 x1) (fun σ1 => some (x1, σ1))
set_option maxHeartbeats 4000000 in
set_option maxRecDepth 100000 in
theorem c_X8_fail (l : Launch) {D : va_G} {Y : Nat → ClassId} {Z : (Nat → Prop) → State → Heap → Prop} (hZ : sg_Zok Z) {ad : Nat → Nat} {σ : sg_S} {σ' : sg_S} {x1 : Int32} {r : Int32} (hF : f_X8_fail x1 σ = some (r, σ')) : sg_MI l yX8_fail wsX8_fail 0 0 D Y Z [.ref (ad 0), .int x1] (ww_X8 Y ad σ) r (ww_X8 Y ad σ') := by
  intro sz
  refine sg_enter (own := RX8) (maxL := 2) (ret := (some .int)) (cc := cX8_fail) (by decide +kernel) rfl rfl (Nat.le_of_ble_eq_true rfl) hZ ?_
  intro p e s m args below meth c C hr Q hQ hsz
  refine g_lv (lv2 := [(0, .ref (ad 0)), (1, .int x1)]) [0, 1] rfl ?_
  rw [f_X8_fail] at hF
  refine g_aload_n 1 C dX8_fail_0 rfl rfl rfl ?_
  refine g_iload_n 2 C dX8_fail_1 rfl rfl rfl ?_
  obtain ⟨σ1, eσ1, hF⟩ := sg_letE hF
  refine g_put 5 C (own := RX8) (C1 := RX8) (T := TX8) (w2 := (ww_X8 Y ad σ1)) 0 0 tyX8 tyX8_ok nmX8 kiX8_fail_X8 kfX8_fail_54 rfl rfl (ty := .int) (by decide) rfl rfl (sg_blt rfl) dX8_fail_2 rfl rfl rfl (by decide) (by rw [eσ1]; rfl) ?_
  refine g_iload_n 6 C dX8_fail_5 rfl rfl rfl ?_
  obtain ⟨e1, e2⟩ := sg_pairE hF
  exact g_iret C hr rfl hQ hsz dX8_fail_6 e1.symm (by rw [e2])
theorem kiX8_refuses_X8 : ∀ w ∈ u_ws RX8 TX8 27, w ∈ wsX8_refuses := by decide +kernel
theorem kfX8_refuses_57 : Cond.fieldLink RX8 57 "WeatherMinistryModel" "why" "I" ∈ wsX8_refuses := by decide +kernel
theorem kfX8_refuses_60 : Cond.fieldLink RX8 60 "WeatherMinistryModel" "detail" "I" ∈ wsX8_refuses := by decide +kernel
theorem kfX8_refuses_63 : Cond.fieldLink RX8 63 "WeatherMinistryModel" "behindWhy" "I" ∈ wsX8_refuses := by decide +kernel
def f_X8_refuses (x1 : Int32) (x2 : Int32) (σ : sg_S) : Option (Int32 × sg_S) := sg_let (sg_up σ 0 2 x1) (fun σ1 => sg_let (sg_up σ1 0 3 x2) (fun σ2 => sg_let (sg_up σ2 0 4 0) (fun σ3 => sg_bnd2 (f_X8_fail (-5) σ3) (fun r6 τ4 => some (r6, τ4)))))
set_option maxHeartbeats 4000000 in
set_option maxRecDepth 100000 in
theorem c_X8_refuses (l : Launch) {D : va_G} {Y : Nat → ClassId} {Z : (Nat → Prop) → State → Heap → Prop} (hZ : sg_Zok Z) {ad : Nat → Nat} {σ : sg_S} {σ' : sg_S} {x1 x2 : Int32} {r : Int32} (hF : f_X8_refuses x1 x2 σ = some (r, σ')) : sg_MI l yX8_refuses wsX8_refuses 1 21 D Y Z [.ref (ad 0), .int x1, .int x2] (ww_X8 Y ad σ) r (ww_X8 Y ad σ') := by
  intro sz
  refine sg_enter (own := RX8) (maxL := 3) (ret := (some .int)) (cc := cX8_refuses) (by decide +kernel) rfl rfl (Nat.le_of_ble_eq_true rfl) hZ ?_
  intro p e s m args below meth c C hr Q hQ hsz
  refine g_lv (lv2 := [(0, .ref (ad 0)), (1, .int x1), (2, .int x2)]) [0, 1, 2] rfl ?_
  rw [f_X8_refuses] at hF
  refine g_aload_n 1 C dX8_refuses_0 rfl rfl rfl ?_
  refine g_iload_n 2 C dX8_refuses_1 rfl rfl rfl ?_
  obtain ⟨σ1, eσ1, hF⟩ := sg_letE hF
  refine g_put 5 C (own := RX8) (C1 := RX8) (T := TX8) (w2 := (ww_X8 Y ad σ1)) 0 2 tyX8 tyX8_ok nmX8 kiX8_refuses_X8 kfX8_refuses_57 rfl rfl (ty := .int) (by decide) rfl rfl (sg_blt rfl) dX8_refuses_2 rfl rfl rfl (by decide) (by rw [eσ1]; rfl) ?_
  refine g_aload_n 6 C dX8_refuses_5 rfl rfl rfl ?_
  refine g_iload_n 7 C dX8_refuses_6 rfl rfl rfl ?_
  obtain ⟨σ2, eσ2, hF⟩ := sg_letE hF
  refine g_put 10 C (own := RX8) (C1 := RX8) (T := TX8) (w2 := (ww_X8 Y ad σ2)) 0 3 tyX8 tyX8_ok nmX8 kiX8_refuses_X8 kfX8_refuses_60 rfl rfl (ty := .int) (by decide) rfl rfl (sg_blt rfl) dX8_refuses_7 rfl rfl rfl (by decide) (by rw [eσ2]; rfl) ?_
  refine g_aload_n 11 C dX8_refuses_10 rfl rfl rfl ?_
  refine g_iconst 12 C 0 dX8_refuses_11 rfl (by decide) ?_
  obtain ⟨σ3, eσ3, hF⟩ := sg_letE hF
  refine g_put 15 C (own := RX8) (C1 := RX8) (T := TX8) (w2 := (ww_X8 Y ad σ3)) 0 4 tyX8 tyX8_ok nmX8 kiX8_refuses_X8 kfX8_refuses_63 rfl rfl (ty := .int) (by decide) rfl rfl (sg_blt rfl) dX8_refuses_12 rfl rfl rfl (by decide) (by rw [eσ3]; rfl) ?_
  refine g_aload_n 16 C dX8_refuses_15 rfl rfl rfl ?_
  refine g_bipush 18 C (-5) dX8_refuses_16 rfl (by decide) ?_
  obtain ⟨r6, τ4, q5, hF⟩ := sg_bnd2E hF
  refine g_callVi 21 C (w2 := (ww_X8 Y ad τ4)) (As := [.int (-5)]) (st := []) (n0 := 1) (ci := 9) (q0 := 0) [0, 1, 2, 3, 4, 5, 6, 7, 8, 9, 10, 11, 12] [] [0, 1, 2, 3, 4, 5, 6, 7, 8, 9, 10, 11, 12] (c_X8_fail l hZ (ad := ad) q5) gX8_refuses_X8_fail ⟨rfl, by decide +kernel, by decide +kernel, rfl⟩ rfl ⟨Nat.le_of_ble_eq_true rfl, Nat.le_of_ble_eq_true rfl⟩ rfl rfl ⟨rfl, rfl, rfl, by decide, rfl, rfl⟩ rfl rfl (Nat.le_of_ble_eq_true rfl) ⟨Nat.le_refl _, Nat.le_refl _⟩ dX8_refuses_18 rfl rfl ?_
  obtain ⟨e1, e2⟩ := sg_pairE hF
  exact g_iret C hr rfl hQ hsz dX8_refuses_21 e1.symm (by rw [e2])
def f_X8_isIn (x0 : Int32) (x1 : Int32) (x2 : Int32) : Option Int32 := (if x1 ≤ x0 then (if x0 ≤ x2 then some 1 else some 0) else some 0)
set_option maxHeartbeats 4000000 in
set_option maxRecDepth 100000 in
theorem c_X8_isIn (l : Launch) {D : va_G} {Y : Nat → ClassId} {Z : (Nat → Prop) → State → Heap → Prop} (hZ : sg_Zok Z) {ad : Nat → Nat} {σ : sg_S} {x0 x1 x2 : Int32} {r : Int32} (hF : f_X8_isIn x0 x1 x2 = some r) : sg_MI l yX8_isIn wsX8_isIn 0 0 D Y Z [.int x0, .int x1, .int x2] (ww_0 Y ad σ) r (ww_0 Y ad σ) := by
  intro sz
  refine sg_enter (own := RX8) (maxL := 3) (ret := (some .boolean)) (cc := cX8_isIn) (by decide +kernel) rfl rfl (Nat.le_of_ble_eq_true rfl) hZ ?_
  intro p e s m args below meth c C hr Q hQ hsz
  refine g_lv (lv2 := [(0, .int x0), (1, .int x1), (2, .int x2)]) [0, 1, 2] rfl ?_
  rw [f_X8_isIn] at hF
  refine g_iload_n 1 C dX8_isIn_0 rfl rfl rfl ?_
  refine g_iload_n 2 C dX8_isIn_1 rfl rfl rfl ?_
  refine g_icmp_lt 5 14 C dX8_isIn_2 (by decide) rfl hF (fun hF => ?_) (fun hF => ?_)
  · refine g_iconst 15 C 0 dX8_isIn_14 rfl (by decide) ?_
    have e1 := sg_someE hF
    exact g_iret C hr rfl hQ hsz dX8_isIn_15 e1.symm rfl
  · refine g_iload_n 6 C dX8_isIn_5 rfl rfl rfl ?_
    refine g_iload_n 7 C dX8_isIn_6 rfl rfl rfl ?_
    refine g_icmp_gt 10 14 C dX8_isIn_7 (by decide) rfl hF (fun hF => ?_) (fun hF => ?_)
    · refine g_iconst 15 C 0 dX8_isIn_14 rfl (by decide) ?_
      have e1 := sg_someE hF
      exact g_iret C hr rfl hQ hsz dX8_isIn_15 e1.symm rfl
    · refine g_iconst 11 C 1 dX8_isIn_10 rfl (by decide) ?_
      refine g_goto 15 C dX8_isIn_11 (by decide) ?_
      have e1 := sg_someE hF
      exact g_iret C hr rfl hQ hsz dX8_isIn_15 e1.symm rfl
def f_X8_lays_L2 : Nat → Int32 → sg_S → Option sg_S
  | 0, _, _ => none
  | nz + 1, z2, σz => (if z2 < 79 then sg_grd (sg_in z2 79) (sg_let (sg_up σz 0 (z2.toNatClampNeg) (σz 1 z2.toNatClampNeg)) (fun σ2 => f_X8_lays_L2 nz (z2 + 1) σ2)) else some σz)
def f_X8_lays  (σ : sg_S) : Option sg_S := f_X8_lays_L2 1000 0 σ
set_option maxHeartbeats 4000000 in
set_option maxRecDepth 100000 in
theorem c_X8_lays (l : Launch) {D : va_G} {Y : Nat → ClassId} {Z : (Nat → Prop) → State → Heap → Prop} (hZ : sg_Zok Z) {ad : Nat → Nat} {σ : sg_S} {σ' : sg_S} (hF : f_X8_lays  σ = some σ') : sg_MV l yX8_lays wsX8_lays 0 0 D Y Z [.ref (ad 0), .ref (ad 1)] (ww_AA79 Y ad σ) (ww_AA79 Y ad σ') := by
  intro sz
  refine sg_enter (own := RX8) (maxL := 3) (ret := none) (cc := cX8_lays) (by decide +kernel) rfl rfl (Nat.le_of_ble_eq_true rfl) hZ ?_
  intro p e s m args below meth c C hr Q hQ hsz
  refine g_lv (lv2 := [(0, .ref (ad 0)), (1, .ref (ad 1))]) [0, 1] rfl ?_
  have K2 : ∀ (nz : Nat), ∀ (z2 : Int32) (σz : sg_S), f_X8_lays_L2 nz z2 σz = some σ' → sg_G p l e ({ frames := 0, cells := 0, slots := 0, locals := 0 } : Room) s m args below meth c D (va_A (ww_AA79 Y ad σ) s.heap.size) 3 0 0 Q 2 [(0, .ref (ad 0)), (1, .ref (ad 1)), (2, .int z2)] [] (ww_AA79 Y ad σz) := by
    intro nz
    induction nz with
    | zero =>
      intro z2 σz hF
      rw [f_X8_lays_L2.eq_1] at hF
      exact nomatch hF
    | succ nz ih =>
      intro z2 σz hF
      rw [f_X8_lays_L2.eq_2] at hF
      refine g_iload_n 3 C dX8_lays_2 rfl rfl rfl ?_
      refine g_bipush 5 C 79 dX8_lays_3 rfl (by decide) ?_
      refine g_icmp_ge 8 20 C dX8_lays_5 (by decide) rfl hF (fun hF => ?_) (fun hF => ?_)
      · have e2 := sg_someE hF
        exact g_vret C hr hQ hsz dX8_lays_20 (by rw [e2])
      · refine g_aload_n 9 C dX8_lays_8 rfl rfl rfl ?_
        refine g_iload_n 10 C dX8_lays_9 rfl rfl rfl ?_
        refine g_aload_n 11 C dX8_lays_10 rfl rfl rfl ?_
        refine g_iload_n 12 C dX8_lays_11 rfl rfl rfl ?_
        obtain ⟨h1, hF⟩ := sg_grdE hF
        refine g_ialdc 13 C 1 (z2.toNatClampNeg) (σz 1 z2.toNatClampNeg) dX8_lays_12 rfl rfl rfl h1 rfl ?_
        obtain ⟨σ2, eσ2, hF⟩ := sg_letE hF
        refine g_iast 14 C (w2 := (ww_AA79 Y ad σ2)) 0 dX8_lays_13 rfl rfl h1 (by rw [eσ2]; rfl) ?_
        refine g_iinc 17 C 2 (z2 + 1) [(2, .int (z2 + 1)), (0, .ref (ad 0)), (1, .ref (ad 1))] dX8_lays_14 rfl rfl rfl (by decide) rfl ?_
        refine g_goto 2 C dX8_lays_17 (by decide) ?_
        refine g_lv (lv2 := [(0, .ref (ad 0)), (1, .ref (ad 1)), (2, .int (z2 + 1))]) [1, 2, 0] rfl ?_
        exact ih (z2 + 1) σ2 hF
  rw [f_X8_lays] at hF
  refine g_iconst 1 C 0 dX8_lays_0 rfl (by decide) ?_
  refine g_istore_n 2 C [(2, .int 0), (0, .ref (ad 0)), (1, .ref (ad 1))] dX8_lays_1 rfl rfl (by decide) rfl ?_
  refine g_lv (lv2 := [(0, .ref (ad 0)), (1, .ref (ad 1)), (2, .int 0)]) [1, 2, 0] rfl ?_
  exact K2  1000 0 σ hF
theorem kiX8_begins_X8 : ∀ w ∈ u_ws RX8 TX8 27, w ∈ wsX8_begins := by decide +kernel
theorem kfX8_begins_54 : Cond.fieldLink RX8 54 "WeatherMinistryModel" "fails" "I" ∈ wsX8_begins := by decide +kernel
theorem kfX8_begins_17 : Cond.fieldLink RX8 17 "WeatherMinistryModel" "before" "[I" ∈ wsX8_begins := by decide +kernel
theorem kfX8_begins_13 : Cond.fieldLink RX8 13 "WeatherMinistryModel" "v" "[I" ∈ wsX8_begins := by decide +kernel
def f_X8_begins  (σ : sg_S) : Option sg_S := sg_let (sg_up σ 0 0 0) (fun σ1 => sg_bnd (f_X8_lays  (sg_e2 1 2 1 σ1)) (fun τ2 => sg_let (sg_m2 2 1 1 1 σ1 τ2) (fun σ4 => some σ4)))
set_option maxHeartbeats 4000000 in
set_option maxRecDepth 100000 in
theorem c_X8_begins (l : Launch) {D : va_G} {Y : Nat → ClassId} {Z : (Nat → Prop) → State → Heap → Prop} (hZ : sg_Zok Z) {ad : Nat → Nat} {σ : sg_S} {σ' : sg_S} (hF : f_X8_begins  σ = some σ') : sg_MV l yX8_begins wsX8_begins 1 22 D Y Z [.ref (ad 0)] (ww_X8 Y ad σ) (ww_X8 Y ad σ') := by
  intro sz
  refine sg_enter (own := RX8) (maxL := 1) (ret := none) (cc := cX8_begins) (by decide +kernel) rfl rfl (Nat.le_of_ble_eq_true rfl) hZ ?_
  intro p e s m args below meth c C hr Q hQ hsz
  refine g_lv (lv2 := [(0, .ref (ad 0))]) [0] rfl ?_
  rw [f_X8_begins] at hF
  refine g_aload_n 1 C dX8_begins_0 rfl rfl rfl ?_
  refine g_iconst 2 C 0 dX8_begins_1 rfl (by decide) ?_
  obtain ⟨σ1, eσ1, hF⟩ := sg_letE hF
  refine g_put 5 C (own := RX8) (C1 := RX8) (T := TX8) (w2 := (ww_X8 Y ad σ1)) 0 0 tyX8 tyX8_ok nmX8 kiX8_begins_X8 kfX8_begins_54 rfl rfl (ty := .int) (by decide) rfl rfl (sg_blt rfl) dX8_begins_2 rfl rfl rfl (by decide) (by rw [eσ1]; rfl) ?_
  refine g_aload_n 6 C dX8_begins_5 rfl rfl rfl ?_
  refine g_get 9 C (own := RX8) (C1 := RX8) (T := TX8) 0 9 (.ref (ad 2)) kiX8_begins_X8 kfX8_begins_17 rfl dX8_begins_6 rfl rfl rfl (by decide) rfl ?_
  refine g_aload_n 10 C dX8_begins_9 rfl rfl rfl ?_
  refine g_get 13 C (own := RX8) (C1 := RX8) (T := TX8) 0 8 (.ref (ad 1)) kiX8_begins_X8 kfX8_begins_13 rfl dX8_begins_10 rfl rfl rfl (by decide) rfl ?_
  obtain ⟨τ2, q3, hF⟩ := sg_bndE hF
  obtain ⟨σ4, eσ4, hF⟩ := sg_letE hF
  refine g_callSv 16 C (w2 := (ww_X8 Y ad σ4)) (As := [.ref (ad 2), .ref (ad 1)]) (st := []) (n0 := 2) [2, 1] [0, 3, 4, 5, 6, 7, 8, 9, 10, 11, 12] [0, 12, 11, 1, 2, 3, 4, 5, 6, 7, 8, 9, 10] (c_X8_lays l hZ (ad := (sg_e2 1 2 1 ad)) q3) gX8_begins_X8_lays ⟨by decide +kernel, by decide +kernel, rfl⟩ rfl ⟨Nat.le_of_ble_eq_true rfl, Nat.le_of_ble_eq_true rfl⟩ (by subst eσ4; exact ⟨rfl, rfl, rfl, by decide, rfl, rfl⟩) rfl rfl (Nat.le_of_ble_eq_true rfl) ⟨Nat.le_refl _, Nat.le_refl _⟩ dX8_begins_13 rfl rfl ?_
  have e2 := sg_someE hF
  exact g_vret C hr hQ hsz dX8_begins_16 (by rw [e2])
theorem kiX8_ends_X8 : ∀ w ∈ u_ws RX8 TX8 27, w ∈ wsX8_ends := by decide +kernel
theorem kfX8_ends_54 : Cond.fieldLink RX8 54 "WeatherMinistryModel" "fails" "I" ∈ wsX8_ends := by decide +kernel
theorem kfX8_ends_74 : Cond.fieldLink RX8 74 "WeatherMinistryModel" "changes" "I" ∈ wsX8_ends := by decide +kernel
theorem kfX8_ends_26 : Cond.fieldLink RX8 26 "WeatherMinistryModel" "past" "[I" ∈ wsX8_ends := by decide +kernel
theorem kfX8_ends_17 : Cond.fieldLink RX8 17 "WeatherMinistryModel" "before" "[I" ∈ wsX8_ends := by decide +kernel
theorem kfX8_ends_13 : Cond.fieldLink RX8 13 "WeatherMinistryModel" "v" "[I" ∈ wsX8_ends := by decide +kernel
def f_X8_ends_L74 (x1 : Int32) : Nat → Int32 → sg_S → Option (Int32 × sg_S)
  | 0, _, _ => none
  | nz + 1, z2, σz => (if z2 < 79 then sg_grd (sg_in z2 79) (sg_grd (sg_in (((σz 0 1) * 79) + z2) 632) (sg_let (sg_up σz 5 ((((σz 0 1) * 79) + z2).toNatClampNeg) (σz 2 z2.toNatClampNeg)) (fun σ4 => f_X8_ends_L74 x1 nz (z2 + 1) σ4))) else sg_let (sg_up σz 0 1 ((σz 0 1) + 1)) (fun σ1 => some (x1, σ1)))
def f_X8_ends_L34 (x1 : Int32) : Nat → Int32 → sg_S → Option (Int32 × sg_S)
  | 0, _, _ => none
  | nz + 1, z2, σz => (if z2 < 553 then sg_grd (sg_in (z2 + 79) 632) (sg_grd (sg_in z2 632) (sg_let (sg_up σz 5 (z2.toNatClampNeg) (σz 5 (z2 + 79).toNatClampNeg)) (fun σ8 => f_X8_ends_L34 x1 nz (z2 + 1) σ8))) else sg_let (sg_up σz 0 1 ((σz 0 1) - 1)) (fun σ5 => f_X8_ends_L74 x1 1000 0 σ5))
def f_X8_ends (x1 : Int32) (σ : sg_S) : Option (Int32 × sg_S) := (if σ 0 0 = 0 then (if σ 0 1 = 8 then f_X8_ends_L34 x1 1000 0 σ else f_X8_ends_L74 x1 1000 0 σ) else sg_bnd (f_X8_lays  (sg_e2 1 1 2 σ)) (fun τ9 => sg_let (sg_m2 1 1 2 1 σ τ9) (fun σ11 => some (σ11 0 0, σ11))))
set_option maxHeartbeats 4000000 in
set_option maxRecDepth 100000 in
theorem c_X8_ends (l : Launch) {D : va_G} {Y : Nat → ClassId} {Z : (Nat → Prop) → State → Heap → Prop} (hZ : sg_Zok Z) {ad : Nat → Nat} {σ : sg_S} {σ' : sg_S} {x1 : Int32} {r : Int32} (hF : f_X8_ends x1 σ = some (r, σ')) : sg_MI l yX8_ends wsX8_ends 1 22 D Y Z [.ref (ad 0), .int x1] (ww_X8 Y ad σ) r (ww_X8 Y ad σ') := by
  intro sz
  refine sg_enter (own := RX8) (maxL := 3) (ret := (some .int)) (cc := cX8_ends) (by decide +kernel) rfl rfl (Nat.le_of_ble_eq_true rfl) hZ ?_
  intro p e s m args below meth c C hr Q hQ hsz
  refine g_lv (lv2 := [(0, .ref (ad 0)), (1, .int x1)]) [0, 1] rfl ?_
  have K74 : ∀ (nz : Nat), ∀ (z2 : Int32) (σz : sg_S), f_X8_ends_L74 x1 nz z2 σz = some (r, σ') → sg_G p l e ({ frames := 1, cells := 0, slots := 0, locals := 22 } : Room) s m args below meth c D (va_A (ww_X8 Y ad σ) s.heap.size) 3 0 0 Q 74 [(0, .ref (ad 0)), (1, .int x1), (2, .int z2)] [] (ww_X8 Y ad σz) := by
    intro nz
    induction nz with
    | zero =>
      intro z2 σz hF
      rw [f_X8_ends_L74.eq_1] at hF
      exact nomatch hF
    | succ nz ih =>
      intro z2 σz hF
      rw [f_X8_ends_L74.eq_2] at hF
      refine g_iload_n 75 C dX8_ends_74 rfl rfl rfl ?_
      refine g_bipush 77 C 79 dX8_ends_75 rfl (by decide) ?_
      refine g_icmp_ge 80 106 C dX8_ends_77 (by decide) rfl hF (fun hF => ?_) (fun hF => ?_)
      · refine g_aload_n 107 C dX8_ends_106 rfl rfl rfl ?_
        refine g_dup 108 C dX8_ends_107 rfl rfl ?_
        refine g_get 111 C (own := RX8) (C1 := RX8) (T := TX8) 0 1 (.int (σz 0 1)) kiX8_ends_X8 kfX8_ends_74 rfl dX8_ends_108 rfl rfl rfl (by decide) rfl ?_
        refine g_iconst 112 C 1 dX8_ends_111 rfl (by decide) ?_
        refine g_iadd 113 C dX8_ends_112 rfl ?_
        obtain ⟨σ1, eσ1, hF⟩ := sg_letE hF
        refine g_put 116 C (own := RX8) (C1 := RX8) (T := TX8) (w2 := (ww_X8 Y ad σ1)) 0 1 tyX8 tyX8_ok nmX8 kiX8_ends_X8 kfX8_ends_74 rfl rfl (ty := .int) (by decide) rfl rfl (sg_blt rfl) dX8_ends_113 rfl rfl rfl (by decide) (by rw [eσ1]; rfl) ?_
        refine g_iload_n 117 C dX8_ends_116 rfl rfl rfl ?_
        obtain ⟨e1, e2⟩ := sg_pairE hF
        exact g_iret C hr rfl hQ hsz dX8_ends_117 e1.symm (by rw [e2])
      · refine g_aload_n 81 C dX8_ends_80 rfl rfl rfl ?_
        refine g_get 84 C (own := RX8) (C1 := RX8) (T := TX8) 0 12 (.ref (ad 5)) kiX8_ends_X8 kfX8_ends_26 rfl dX8_ends_81 rfl rfl rfl (by decide) rfl ?_
        refine g_aload_n 85 C dX8_ends_84 rfl rfl rfl ?_
        refine g_get 88 C (own := RX8) (C1 := RX8) (T := TX8) 0 1 (.int (σz 0 1)) kiX8_ends_X8 kfX8_ends_74 rfl dX8_ends_85 rfl rfl rfl (by decide) rfl ?_
        refine g_bipush 90 C 79 dX8_ends_88 rfl (by decide) ?_
        refine g_imul 91 C dX8_ends_90 rfl ?_
        refine g_iload_n 92 C dX8_ends_91 rfl rfl rfl ?_
        refine g_iadd 93 C dX8_ends_92 rfl ?_
        refine g_aload_n 94 C dX8_ends_93 rfl rfl rfl ?_
        refine g_get 97 C (own := RX8) (C1 := RX8) (T := TX8) 0 9 (.ref (ad 2)) kiX8_ends_X8 kfX8_ends_17 rfl dX8_ends_94 rfl rfl rfl (by decide) rfl ?_
        refine g_iload_n 98 C dX8_ends_97 rfl rfl rfl ?_
        obtain ⟨h2, hF⟩ := sg_grdE hF
        refine g_ialdc 99 C 2 (z2.toNatClampNeg) (σz 2 z2.toNatClampNeg) dX8_ends_98 rfl rfl rfl h2 rfl ?_
        obtain ⟨h3, hF⟩ := sg_grdE hF
        obtain ⟨σ4, eσ4, hF⟩ := sg_letE hF
        refine g_iast 100 C (w2 := (ww_X8 Y ad σ4)) 5 dX8_ends_99 rfl rfl h3 (by rw [eσ4]; rfl) ?_
        refine g_iinc 103 C 2 (z2 + 1) [(2, .int (z2 + 1)), (0, .ref (ad 0)), (1, .int x1)] dX8_ends_100 rfl rfl rfl (by decide) rfl ?_
        refine g_goto 74 C dX8_ends_103 (by decide) ?_
        refine g_lv (lv2 := [(0, .ref (ad 0)), (1, .int x1), (2, .int (z2 + 1))]) [1, 2, 0] rfl ?_
        exact ih (z2 + 1) σ4 hF
  have K34 : ∀ (nz : Nat), ∀ (z2 : Int32) (σz : sg_S), f_X8_ends_L34 x1 nz z2 σz = some (r, σ') → sg_G p l e ({ frames := 1, cells := 0, slots := 0, locals := 22 } : Room) s m args below meth c D (va_A (ww_X8 Y ad σ) s.heap.size) 3 0 0 Q 34 [(0, .ref (ad 0)), (1, .int x1), (2, .int z2)] [] (ww_X8 Y ad σz) := by
    intro nz
    induction nz with
    | zero =>
      intro z2 σz hF
      rw [f_X8_ends_L34.eq_1] at hF
      exact nomatch hF
    | succ nz ih =>
      intro z2 σz hF
      rw [f_X8_ends_L34.eq_2] at hF
      refine g_iload_n 35 C dX8_ends_34 rfl rfl rfl ?_
      refine g_sipush 38 C 553 dX8_ends_35 rfl (by decide) ?_
      refine g_icmp_ge 41 62 C dX8_ends_38 (by decide) rfl hF (fun hF => ?_) (fun hF => ?_)
      · refine g_aload_n 63 C dX8_ends_62 rfl rfl rfl ?_
        refine g_dup 64 C dX8_ends_63 rfl rfl ?_
        refine g_get 67 C (own := RX8) (C1 := RX8) (T := TX8) 0 1 (.int (σz 0 1)) kiX8_ends_X8 kfX8_ends_74 rfl dX8_ends_64 rfl rfl rfl (by decide) rfl ?_
        refine g_iconst 68 C 1 dX8_ends_67 rfl (by decide) ?_
        refine g_isub 69 C dX8_ends_68 rfl ?_
        obtain ⟨σ5, eσ5, hF⟩ := sg_letE hF
        refine g_put 72 C (own := RX8) (C1 := RX8) (T := TX8) (w2 := (ww_X8 Y ad σ5)) 0 1 tyX8 tyX8_ok nmX8 kiX8_ends_X8 kfX8_ends_74 rfl rfl (ty := .int) (by decide) rfl rfl (sg_blt rfl) dX8_ends_69 rfl rfl rfl (by decide) (by rw [eσ5]; rfl) ?_
        refine g_iconst 73 C 0 dX8_ends_72 rfl (by decide) ?_
        refine g_istore_n 74 C [(2, .int 0), (0, .ref (ad 0)), (1, .int x1)] dX8_ends_73 rfl rfl (by decide) rfl ?_
        refine g_lv (lv2 := [(0, .ref (ad 0)), (1, .int x1), (2, .int 0)]) [1, 2, 0] rfl ?_
        exact K74  1000 0 σ5 hF
      · refine g_aload_n 42 C dX8_ends_41 rfl rfl rfl ?_
        refine g_get 45 C (own := RX8) (C1 := RX8) (T := TX8) 0 12 (.ref (ad 5)) kiX8_ends_X8 kfX8_ends_26 rfl dX8_ends_42 rfl rfl rfl (by decide) rfl ?_
        refine g_iload_n 46 C dX8_ends_45 rfl rfl rfl ?_
        refine g_aload_n 47 C dX8_ends_46 rfl rfl rfl ?_
        refine g_get 50 C (own := RX8) (C1 := RX8) (T := TX8) 0 12 (.ref (ad 5)) kiX8_ends_X8 kfX8_ends_26 rfl dX8_ends_47 rfl rfl rfl (by decide) rfl ?_
        refine g_iload_n 51 C dX8_ends_50 rfl rfl rfl ?_
        refine g_bipush 53 C 79 dX8_ends_51 rfl (by decide) ?_
        refine g_iadd 54 C dX8_ends_53 rfl ?_
        obtain ⟨h6, hF⟩ := sg_grdE hF
        refine g_ialdc 55 C 5 ((z2 + 79).toNatClampNeg) (σz 5 (z2 + 79).toNatClampNeg) dX8_ends_54 rfl rfl rfl h6 rfl ?_
        obtain ⟨h7, hF⟩ := sg_grdE hF
        obtain ⟨σ8, eσ8, hF⟩ := sg_letE hF
        refine g_iast 56 C (w2 := (ww_X8 Y ad σ8)) 5 dX8_ends_55 rfl rfl h7 (by rw [eσ8]; rfl) ?_
        refine g_iinc 59 C 2 (z2 + 1) [(2, .int (z2 + 1)), (0, .ref (ad 0)), (1, .int x1)] dX8_ends_56 rfl rfl rfl (by decide) rfl ?_
        refine g_goto 34 C dX8_ends_59 (by decide) ?_
        refine g_lv (lv2 := [(0, .ref (ad 0)), (1, .int x1), (2, .int (z2 + 1))]) [1, 2, 0] rfl ?_
        exact ih (z2 + 1) σ8 hF
  rw [f_X8_ends] at hF
  refine g_aload_n 1 C dX8_ends_0 rfl rfl rfl ?_
  refine g_get 4 C (own := RX8) (C1 := RX8) (T := TX8) 0 0 (.int (σ 0 0)) kiX8_ends_X8 kfX8_ends_54 rfl dX8_ends_1 rfl rfl rfl (by decide) rfl ?_
  refine g_if_eq 7 23 C dX8_ends_4 (by decide) rfl hF (fun hF => ?_) (fun hF => ?_)
  · refine g_aload_n 24 C dX8_ends_23 rfl rfl rfl ?_
    refine g_get 27 C (own := RX8) (C1 := RX8) (T := TX8) 0 1 (.int (σ 0 1)) kiX8_ends_X8 kfX8_ends_74 rfl dX8_ends_24 rfl rfl rfl (by decide) rfl ?_
    refine g_bipush 29 C 8 dX8_ends_27 rfl (by decide) ?_
    refine g_icmp_ne 32 72 C dX8_ends_29 (by decide) rfl hF (fun hF => ?_) (fun hF => ?_)
    · refine g_iconst 73 C 0 dX8_ends_72 rfl (by decide) ?_
      refine g_istore_n 74 C [(2, .int 0), (0, .ref (ad 0)), (1, .int x1)] dX8_ends_73 rfl rfl (by decide) rfl ?_
      refine g_lv (lv2 := [(0, .ref (ad 0)), (1, .int x1), (2, .int 0)]) [1, 2, 0] rfl ?_
      exact K74  1000 0 σ hF
    · refine g_iconst 33 C 0 dX8_ends_32 rfl (by decide) ?_
      refine g_istore_n 34 C [(2, .int 0), (0, .ref (ad 0)), (1, .int x1)] dX8_ends_33 rfl rfl (by decide) rfl ?_
      refine g_lv (lv2 := [(0, .ref (ad 0)), (1, .int x1), (2, .int 0)]) [1, 2, 0] rfl ?_
      exact K34  1000 0 σ hF
  · refine g_aload_n 8 C dX8_ends_7 rfl rfl rfl ?_
    refine g_get 11 C (own := RX8) (C1 := RX8) (T := TX8) 0 8 (.ref (ad 1)) kiX8_ends_X8 kfX8_ends_13 rfl dX8_ends_8 rfl rfl rfl (by decide) rfl ?_
    refine g_aload_n 12 C dX8_ends_11 rfl rfl rfl ?_
    refine g_get 15 C (own := RX8) (C1 := RX8) (T := TX8) 0 9 (.ref (ad 2)) kiX8_ends_X8 kfX8_ends_17 rfl dX8_ends_12 rfl rfl rfl (by decide) rfl ?_
    obtain ⟨τ9, q10, hF⟩ := sg_bndE hF
    obtain ⟨σ11, eσ11, hF⟩ := sg_letE hF
    refine g_callSv 18 C (w2 := (ww_X8 Y ad σ11)) (As := [.ref (ad 1), .ref (ad 2)]) (st := []) (n0 := 2) [1, 2] [0, 3, 4, 5, 6, 7, 8, 9, 10, 11, 12] [0, 11, 12, 1, 2, 3, 4, 5, 6, 7, 8, 9, 10] (c_X8_lays l hZ (ad := (sg_e2 1 1 2 ad)) q10) gX8_ends_X8_lays ⟨by decide +kernel, by decide +kernel, rfl⟩ rfl ⟨Nat.le_of_ble_eq_true rfl, Nat.le_of_ble_eq_true rfl⟩ (by subst eσ11; exact ⟨rfl, rfl, rfl, by decide, rfl, rfl⟩) rfl rfl (Nat.le_of_ble_eq_true rfl) ⟨Nat.le_refl _, Nat.le_refl _⟩ dX8_ends_15 rfl rfl ?_
    refine g_aload_n 19 C dX8_ends_18 rfl rfl rfl ?_
    refine g_get 22 C (own := RX8) (C1 := RX8) (T := TX8) 0 0 (.int (σ11 0 0)) kiX8_ends_X8 kfX8_ends_54 rfl dX8_ends_19 rfl rfl rfl (by decide) rfl ?_
    obtain ⟨e1, e2⟩ := sg_pairE hF
    exact g_iret C hr rfl hQ hsz dX8_ends_22 e1.symm (by rw [e2])
def f_X8_at (x0 : Int32) (x1 : Int32) : Option Int32 := some ((10 + (4 * x0)) + x1)
set_option maxHeartbeats 4000000 in
set_option maxRecDepth 100000 in
theorem c_X8_at (l : Launch) {D : va_G} {Y : Nat → ClassId} {Z : (Nat → Prop) → State → Heap → Prop} (hZ : sg_Zok Z) {ad : Nat → Nat} {σ : sg_S} {x0 x1 : Int32} {r : Int32} (hF : f_X8_at x0 x1 = some r) : sg_MI l yX8_at wsX8_at 0 0 D Y Z [.int x0, .int x1] (ww_0 Y ad σ) r (ww_0 Y ad σ) := by
  intro sz
  refine sg_enter (own := RX8) (maxL := 2) (ret := (some .int)) (cc := cX8_at) (by decide +kernel) rfl rfl (Nat.le_of_ble_eq_true rfl) hZ ?_
  intro p e s m args below meth c C hr Q hQ hsz
  refine g_lv (lv2 := [(0, .int x0), (1, .int x1)]) [0, 1] rfl ?_
  rw [f_X8_at] at hF
  refine g_bipush 2 C 10 dX8_at_0 rfl (by decide) ?_
  refine g_iconst 3 C 4 dX8_at_2 rfl (by decide) ?_
  refine g_iload_n 4 C dX8_at_3 rfl rfl rfl ?_
  refine g_imul 5 C dX8_at_4 rfl ?_
  refine g_iadd 6 C dX8_at_5 rfl ?_
  refine g_iload_n 7 C dX8_at_6 rfl rfl rfl ?_
  refine g_iadd 8 C dX8_at_7 rfl ?_
  have e1 := sg_someE hF
  exact g_iret C hr rfl hQ hsz dX8_at_8 e1.symm rfl
def f_X8_in (x0 : Int32) (x1 : Int32) : Option Int32 := some ((55 + (3 * x0)) + x1)
set_option maxHeartbeats 4000000 in
set_option maxRecDepth 100000 in
theorem c_X8_in (l : Launch) {D : va_G} {Y : Nat → ClassId} {Z : (Nat → Prop) → State → Heap → Prop} (hZ : sg_Zok Z) {ad : Nat → Nat} {σ : sg_S} {x0 x1 : Int32} {r : Int32} (hF : f_X8_in x0 x1 = some r) : sg_MI l yX8_in wsX8_in 0 0 D Y Z [.int x0, .int x1] (ww_0 Y ad σ) r (ww_0 Y ad σ) := by
  intro sz
  refine sg_enter (own := RX8) (maxL := 2) (ret := (some .int)) (cc := cX8_in) (by decide +kernel) rfl rfl (Nat.le_of_ble_eq_true rfl) hZ ?_
  intro p e s m args below meth c C hr Q hQ hsz
  refine g_lv (lv2 := [(0, .int x0), (1, .int x1)]) [0, 1] rfl ?_
  rw [f_X8_in] at hF
  refine g_bipush 2 C 55 dX8_in_0 rfl (by decide) ?_
  refine g_iconst 3 C 3 dX8_in_2 rfl (by decide) ?_
  refine g_iload_n 4 C dX8_in_3 rfl rfl rfl ?_
  refine g_imul 5 C dX8_in_4 rfl ?_
  refine g_iadd 6 C dX8_in_5 rfl ?_
  refine g_iload_n 7 C dX8_in_6 rfl rfl rfl ?_
  refine g_iadd 8 C dX8_in_7 rfl ?_
  have e1 := sg_someE hF
  exact g_iret C hr rfl hQ hsz dX8_in_8 e1.symm rfl
def f_X8_isTown (x0 : Int32) : Option Int32 := sg_bnd (f_X8_isIn x0 0 4) (fun r1 => sg_grd (sg_01 r1) (some r1))
set_option maxHeartbeats 4000000 in
set_option maxRecDepth 100000 in
theorem c_X8_isTown (l : Launch) {D : va_G} {Y : Nat → ClassId} {Z : (Nat → Prop) → State → Heap → Prop} (hZ : sg_Zok Z) {ad : Nat → Nat} {σ : sg_S} {x0 : Int32} {r : Int32} (hF : f_X8_isTown x0 = some r) : sg_MI l yX8_isTown wsX8_isTown 1 22 D Y Z [.int x0] (ww_0 Y ad σ) r (ww_0 Y ad σ) := by
  intro sz
  refine sg_enter (own := RX8) (maxL := 1) (ret := (some .boolean)) (cc := cX8_isTown) (by decide +kernel) rfl rfl (Nat.le_of_ble_eq_true rfl) hZ ?_
  intro p e s m args below meth c C hr Q hQ hsz
  refine g_lv (lv2 := [(0, .int x0)]) [0] rfl ?_
  rw [f_X8_isTown] at hF
  refine g_iload_n 1 C dX8_isTown_0 rfl rfl rfl ?_
  refine g_iconst 2 C 0 dX8_isTown_1 rfl (by decide) ?_
  refine g_iconst 3 C 4 dX8_isTown_2 rfl (by decide) ?_
  obtain ⟨r1, q2, hF⟩ := sg_bndE hF
  refine g_callSi 6 C (w2 := (ww_0 Y ad σ)) (As := [.int x0, .int 0, .int 4]) (st := []) (n0 := 3) [] [] [] (c_X8_isIn l hZ (ad := ad) (σ := σ) q2) gX8_isTown_X8_isIn ⟨by decide +kernel, by decide +kernel, rfl⟩ rfl ⟨Nat.le_of_ble_eq_true rfl, Nat.le_of_ble_eq_true rfl⟩ ⟨rfl, rfl, rfl, by decide, rfl, rfl⟩ rfl rfl (Nat.le_of_ble_eq_true rfl) ⟨Nat.le_refl _, Nat.le_refl _⟩ dX8_isTown_3 rfl rfl ?_
  obtain ⟨h3, hF⟩ := sg_grdE hF
  have e1 := sg_someE hF
  exact g_iret C hr (sg_01n h3).1 hQ hsz dX8_isTown_6 e1.symm rfl
theorem kiX8_isCredit_X8 : ∀ w ∈ u_ws RX8 TX8 27, w ∈ wsX8_isCredit := by decide +kernel
theorem kfX8_isCredit_13 : Cond.fieldLink RX8 13 "WeatherMinistryModel" "v" "[I" ∈ wsX8_isCredit := by decide +kernel
def f_X8_isCredit (x1 : Int32) (σ : sg_S) : Option Int32 := sg_bnd (f_X8_isIn x1 0 ((σ 1 1) - 1)) (fun r1 => sg_grd (sg_01 r1) (some r1))
set_option maxHeartbeats 4000000 in
set_option maxRecDepth 100000 in
theorem c_X8_isCredit (l : Launch) {D : va_G} {Y : Nat → ClassId} {Z : (Nat → Prop) → State → Heap → Prop} (hZ : sg_Zok Z) {ad : Nat → Nat} {σ : sg_S} {x1 : Int32} {r : Int32} (hF : f_X8_isCredit x1 σ = some r) : sg_MI l yX8_isCredit wsX8_isCredit 1 22 D Y Z [.ref (ad 0), .int x1] (ww_X8 Y ad σ) r (ww_X8 Y ad σ) := by
  intro sz
  refine sg_enter (own := RX8) (maxL := 2) (ret := (some .boolean)) (cc := cX8_isCredit) (by decide +kernel) rfl rfl (Nat.le_of_ble_eq_true rfl) hZ ?_
  intro p e s m args below meth c C hr Q hQ hsz
  refine g_lv (lv2 := [(0, .ref (ad 0)), (1, .int x1)]) [0, 1] rfl ?_
  rw [f_X8_isCredit] at hF
  refine g_iload_n 1 C dX8_isCredit_0 rfl rfl rfl ?_
  refine g_iconst 2 C 0 dX8_isCredit_1 rfl (by decide) ?_
  refine g_aload_n 3 C dX8_isCredit_2 rfl rfl rfl ?_
  refine g_get 6 C (own := RX8) (C1 := RX8) (T := TX8) 0 8 (.ref (ad 1)) kiX8_isCredit_X8 kfX8_isCredit_13 rfl dX8_isCredit_3 rfl rfl rfl (by decide) rfl ?_
  refine g_iconst 7 C 1 dX8_isCredit_6 rfl (by decide) ?_
  refine g_ialdc 8 C 1 (1) (σ 1 1) dX8_isCredit_7 rfl rfl (by decide) (by decide) rfl ?_
  refine g_iconst 9 C 1 dX8_isCredit_8 rfl (by decide) ?_
  refine g_isub 10 C dX8_isCredit_9 rfl ?_
  obtain ⟨r1, q2, hF⟩ := sg_bndE hF
  refine g_callSi 13 C (w2 := (ww_X8 Y ad σ)) (As := [.int x1, .int 0, .int ((σ 1 1) - 1)]) (st := []) (n0 := 3) [] [0, 1, 2, 3, 4, 5, 6, 7, 8, 9, 10, 11, 12] [0, 1, 2, 3, 4, 5, 6, 7, 8, 9, 10, 11, 12] (c_X8_isIn l hZ (ad := ad) (σ := σ) q2) gX8_isCredit_X8_isIn ⟨by decide +kernel, by decide +kernel, rfl⟩ rfl ⟨Nat.le_of_ble_eq_true rfl, Nat.le_of_ble_eq_true rfl⟩ ⟨rfl, rfl, rfl, by decide, rfl, rfl⟩ rfl rfl (Nat.le_of_ble_eq_true rfl) ⟨Nat.le_refl _, Nat.le_refl _⟩ dX8_isCredit_10 rfl rfl ?_
  obtain ⟨h3, hF⟩ := sg_grdE hF
  have e1 := sg_someE hF
  exact g_iret C hr (sg_01n h3).1 hQ hsz dX8_isCredit_13 e1.symm rfl
theorem kiX8_treaties_X8 : ∀ w ∈ u_ws RX8 TX8 27, w ∈ wsX8_treaties := by decide +kernel
theorem kfX8_treaties_13 : Cond.fieldLink RX8 13 "WeatherMinistryModel" "v" "[I" ∈ wsX8_treaties := by decide +kernel
def f_X8_treaties_L4 (x1 : Int32) (σ : sg_S) : Nat → Int32 → Int32 → Option Int32
  | 0, _, _ => none
  | nz + 1, z2, z3 => (if z3 < 5 then sg_grd (sg_in ((30 + (5 * x1)) + z3) 79) (sg_let (z2 + (σ 1 ((30 + (5 * x1)) + z3).toNatClampNeg)) (fun y2 => f_X8_treaties_L4 x1 σ nz y2 (z3 + 1))) else some z2)
def f_X8_treaties (x1 : Int32) (σ : sg_S) : Option Int32 := f_X8_treaties_L4 x1 σ 1000 0 0
set_option maxHeartbeats 4000000 in
set_option maxRecDepth 100000 in
theorem c_X8_treaties (l : Launch) {D : va_G} {Y : Nat → ClassId} {Z : (Nat → Prop) → State → Heap → Prop} (hZ : sg_Zok Z) {ad : Nat → Nat} {σ : sg_S} {x1 : Int32} {r : Int32} (hF : f_X8_treaties x1 σ = some r) : sg_MI l yX8_treaties wsX8_treaties 0 0 D Y Z [.ref (ad 0), .int x1] (ww_X8 Y ad σ) r (ww_X8 Y ad σ) := by
  intro sz
  refine sg_enter (own := RX8) (maxL := 4) (ret := (some .int)) (cc := cX8_treaties) (by decide +kernel) rfl rfl (Nat.le_of_ble_eq_true rfl) hZ ?_
  intro p e s m args below meth c C hr Q hQ hsz
  refine g_lv (lv2 := [(0, .ref (ad 0)), (1, .int x1)]) [0, 1] rfl ?_
  have K4 : ∀ (nz : Nat), ∀ (z2 : Int32) (z3 : Int32), f_X8_treaties_L4 x1 σ nz z2 z3 = some r → sg_G p l e ({ frames := 0, cells := 0, slots := 0, locals := 0 } : Room) s m args below meth c D (va_A (ww_X8 Y ad σ) s.heap.size) 4 0 0 Q 4 [(0, .ref (ad 0)), (1, .int x1), (2, .int z2), (3, .int z3)] [] (ww_X8 Y ad σ) := by
    intro nz
    induction nz with
    | zero =>
      intro z2 z3 hF
      rw [f_X8_treaties_L4.eq_1] at hF
      exact nomatch hF
    | succ nz ih =>
      intro z2 z3 hF
      rw [f_X8_treaties_L4.eq_2] at hF
      refine g_iload_n 5 C dX8_treaties_4 rfl rfl rfl ?_
      refine g_iconst 6 C 5 dX8_treaties_5 rfl (by decide) ?_
      refine g_icmp_ge 9 31 C dX8_treaties_6 (by decide) rfl hF (fun hF => ?_) (fun hF => ?_)
      · refine g_iload_n 32 C dX8_treaties_31 rfl rfl rfl ?_
        have e1 := sg_someE hF
        exact g_iret C hr rfl hQ hsz dX8_treaties_32 e1.symm rfl
      · refine g_iload_n 10 C dX8_treaties_9 rfl rfl rfl ?_
        refine g_aload_n 11 C dX8_treaties_10 rfl rfl rfl ?_
        refine g_get 14 C (own := RX8) (C1 := RX8) (T := TX8) 0 8 (.ref (ad 1)) kiX8_treaties_X8 kfX8_treaties_13 rfl dX8_treaties_11 rfl rfl rfl (by decide) rfl ?_
        refine g_bipush 16 C 30 dX8_treaties_14 rfl (by decide) ?_
        refine g_iconst 17 C 5 dX8_treaties_16 rfl (by decide) ?_
        refine g_iload_n 18 C dX8_treaties_17 rfl rfl rfl ?_
        refine g_imul 19 C dX8_treaties_18 rfl ?_
        refine g_iadd 20 C dX8_treaties_19 rfl ?_
        refine g_iload_n 21 C dX8_treaties_20 rfl rfl rfl ?_
        refine g_iadd 22 C dX8_treaties_21 rfl ?_
        obtain ⟨h1, hF⟩ := sg_grdE hF
        refine g_ialdc 23 C 1 (((30 + (5 * x1)) + z3).toNatClampNeg) (σ 1 ((30 + (5 * x1)) + z3).toNatClampNeg) dX8_treaties_22 rfl rfl rfl h1 rfl ?_
        refine g_iadd 24 C dX8_treaties_23 rfl ?_
        obtain ⟨y2, ey2, hF⟩ := sg_letE hF
        refine g_top ey2 ?_
        refine g_istore_n 25 C [(2, .int y2), (0, .ref (ad 0)), (1, .int x1), (3, .int z3)] dX8_treaties_24 rfl rfl (by decide) rfl ?_
        refine g_iinc 28 C 3 (z3 + 1) [(3, .int (z3 + 1)), (2, .int y2), (0, .ref (ad 0)), (1, .int x1)] dX8_treaties_25 rfl rfl rfl (by decide) rfl ?_
        refine g_goto 4 C dX8_treaties_28 (by decide) ?_
        refine g_lv (lv2 := [(0, .ref (ad 0)), (1, .int x1), (2, .int y2), (3, .int (z3 + 1))]) [2, 3, 1, 0] rfl ?_
        exact ih y2 (z3 + 1) hF
  rw [f_X8_treaties] at hF
  refine g_iconst 1 C 0 dX8_treaties_0 rfl (by decide) ?_
  refine g_istore_n 2 C [(2, .int 0), (0, .ref (ad 0)), (1, .int x1)] dX8_treaties_1 rfl rfl (by decide) rfl ?_
  refine g_iconst 3 C 0 dX8_treaties_2 rfl (by decide) ?_
  refine g_istore_n 4 C [(3, .int 0), (2, .int 0), (0, .ref (ad 0)), (1, .int x1)] dX8_treaties_3 rfl rfl (by decide) rfl ?_
  refine g_lv (lv2 := [(0, .ref (ad 0)), (1, .int x1), (2, .int 0), (3, .int 0)]) [2, 3, 1, 0] rfl ?_
  exact K4  1000 0 0 hF
def f_X8_allTreaties_L4 (σ : sg_S) : Nat → Int32 → Int32 → Option Int32
  | 0, _, _ => none
  | nz + 1, z1, z2 => (if z2 < 5 then sg_bnd (f_X8_treaties z2 σ) (fun r1 => sg_let (z1 + r1) (fun y3 => f_X8_allTreaties_L4 σ nz y3 (z2 + 1))) else some (z1 / 2))
def f_X8_allTreaties  (σ : sg_S) : Option Int32 := f_X8_allTreaties_L4 σ 1000 0 0
set_option maxHeartbeats 4000000 in
set_option maxRecDepth 100000 in
theorem c_X8_allTreaties (l : Launch) {D : va_G} {Y : Nat → ClassId} {Z : (Nat → Prop) → State → Heap → Prop} (hZ : sg_Zok Z) {ad : Nat → Nat} {σ : sg_S} {r : Int32} (hF : f_X8_allTreaties  σ = some r) : sg_MI l yX8_allTreaties wsX8_allTreaties 1 23 D Y Z [.ref (ad 0)] (ww_X8 Y ad σ) r (ww_X8 Y ad σ) := by
  intro sz
  refine sg_enter (own := RX8) (maxL := 3) (ret := (some .int)) (cc := cX8_allTreaties) (by decide +kernel) rfl rfl (Nat.le_of_ble_eq_true rfl) hZ ?_
  intro p e s m args below meth c C hr Q hQ hsz
  refine g_lv (lv2 := [(0, .ref (ad 0))]) [0] rfl ?_
  have K4 : ∀ (nz : Nat), ∀ (z1 : Int32) (z2 : Int32), f_X8_allTreaties_L4 σ nz z1 z2 = some r → sg_G p l e ({ frames := 1, cells := 0, slots := 0, locals := 23 } : Room) s m args below meth c D (va_A (ww_X8 Y ad σ) s.heap.size) 3 0 0 Q 4 [(0, .ref (ad 0)), (1, .int z1), (2, .int z2)] [] (ww_X8 Y ad σ) := by
    intro nz
    induction nz with
    | zero =>
      intro z1 z2 hF
      rw [f_X8_allTreaties_L4.eq_1] at hF
      exact nomatch hF
    | succ nz ih =>
      intro z1 z2 hF
      rw [f_X8_allTreaties_L4.eq_2] at hF
      refine g_iload_n 5 C dX8_allTreaties_4 rfl rfl rfl ?_
      refine g_iconst 6 C 5 dX8_allTreaties_5 rfl (by decide) ?_
      refine g_icmp_ge 9 23 C dX8_allTreaties_6 (by decide) rfl hF (fun hF => ?_) (fun hF => ?_)
      · refine g_iload_n 24 C dX8_allTreaties_23 rfl rfl rfl ?_
        refine g_iconst 25 C 2 dX8_allTreaties_24 rfl (by decide) ?_
        refine g_idivc 26 C dX8_allTreaties_25 rfl (by decide) ?_
        have e1 := sg_someE hF
        exact g_iret C hr rfl hQ hsz dX8_allTreaties_26 e1.symm rfl
      · refine g_iload_n 10 C dX8_allTreaties_9 rfl rfl rfl ?_
        refine g_aload_n 11 C dX8_allTreaties_10 rfl rfl rfl ?_
        refine g_iload_n 12 C dX8_allTreaties_11 rfl rfl rfl ?_
        obtain ⟨r1, q2, hF⟩ := sg_bndE hF
        refine g_callVi 15 C (w2 := (ww_X8 Y ad σ)) (As := [.int z2]) (st := [.int z1]) (n0 := 1) (ci := 9) (q0 := 0) [0, 1, 2, 3, 4, 5, 6, 7, 8, 9, 10, 11, 12] [] [0, 1, 2, 3, 4, 5, 6, 7, 8, 9, 10, 11, 12] (c_X8_treaties l hZ (ad := ad) q2) gX8_allTreaties_X8_treaties ⟨rfl, by decide +kernel, by decide +kernel, rfl⟩ rfl ⟨Nat.le_of_ble_eq_true rfl, Nat.le_of_ble_eq_true rfl⟩ rfl rfl ⟨rfl, rfl, rfl, by decide, rfl, rfl⟩ rfl rfl (Nat.le_of_ble_eq_true rfl) ⟨Nat.le_refl _, Nat.le_refl _⟩ dX8_allTreaties_12 rfl rfl ?_
        refine g_iadd 16 C dX8_allTreaties_15 rfl ?_
        obtain ⟨y3, ey3, hF⟩ := sg_letE hF
        refine g_top ey3 ?_
        refine g_istore_n 17 C [(1, .int y3), (0, .ref (ad 0)), (2, .int z2)] dX8_allTreaties_16 rfl rfl (by decide) rfl ?_
        refine g_iinc 20 C 2 (z2 + 1) [(2, .int (z2 + 1)), (1, .int y3), (0, .ref (ad 0))] dX8_allTreaties_17 rfl rfl rfl (by decide) rfl ?_
        refine g_goto 4 C dX8_allTreaties_20 (by decide) ?_
        refine g_lv (lv2 := [(0, .ref (ad 0)), (1, .int y3), (2, .int (z2 + 1))]) [2, 1, 0] rfl ?_
        exact ih y3 (z2 + 1) hF
  rw [f_X8_allTreaties] at hF
  refine g_iconst 1 C 0 dX8_allTreaties_0 rfl (by decide) ?_
  refine g_istore_n 2 C [(1, .int 0), (0, .ref (ad 0))] dX8_allTreaties_1 rfl rfl (by decide) rfl ?_
  refine g_iconst 3 C 0 dX8_allTreaties_2 rfl (by decide) ?_
  refine g_istore_n 4 C [(2, .int 0), (1, .int 0), (0, .ref (ad 0))] dX8_allTreaties_3 rfl rfl (by decide) rfl ?_
  refine g_lv (lv2 := [(0, .ref (ad 0)), (1, .int 0), (2, .int 0)]) [2, 1, 0] rfl ?_
  exact K4  1000 0 0 hF
theorem kiX8_treats_X8 : ∀ w ∈ u_ws RX8 TX8 27, w ∈ wsX8_treats := by decide +kernel
theorem kfX8_treats_13 : Cond.fieldLink RX8 13 "WeatherMinistryModel" "v" "[I" ∈ wsX8_treats := by decide +kernel
def f_X8_treats (x1 : Int32) (x2 : Int32) (x3 : Int32) (σ : sg_S) : Option (Int32 × sg_S) := sg_bnd (f_X8_isTown x1) (fun r1 => (if r1 = 0 then sg_bnd2 (f_X8_fail (-1) σ) (fun r5 τ3 => some (r5, τ3)) else sg_bnd (f_X8_isTown x2) (fun r6 => (if r6 = 0 then sg_bnd2 (f_X8_fail (-1) σ) (fun r22 τ20 => some (r22, τ20)) else (if x1 = x2 then sg_bnd2 (f_X8_refuses 8 x1 σ) (fun r19 τ17 => some (r19, τ17)) else sg_grd (sg_in ((30 + (5 * x1)) + x2) 79) ((if σ 1 ((30 + (5 * x1)) + x2).toNatClampNeg = x3 then sg_bnd2 (f_X8_refuses 7 x3 σ) (fun r16 τ14 => some (r16, τ14)) else sg_let (sg_up σ 1 (((30 + (5 * x1)) + x2).toNatClampNeg) x3) (fun σ9 => sg_grd (sg_in ((30 + (5 * x2)) + x1) 79) (sg_let (sg_up σ9 1 (((30 + (5 * x2)) + x1).toNatClampNeg) x3) (fun σ11 => sg_bnd (f_X8_allTreaties  σ11) (fun r12 => some (r12, σ11))))))))))))
set_option maxHeartbeats 4000000 in
set_option maxRecDepth 100000 in
theorem c_X8_treats (l : Launch) {D : va_G} {Y : Nat → ClassId} {Z : (Nat → Prop) → State → Heap → Prop} (hZ : sg_Zok Z) {ad : Nat → Nat} {σ : sg_S} {σ' : sg_S} {x1 x2 x3 : Int32} {r : Int32} (hF : f_X8_treats x1 x2 x3 σ = some (r, σ')) : sg_MI l yX8_treats wsX8_treats 2 45 D Y Z [.ref (ad 0), .int x1, .int x2, .int x3] (ww_X8 Y ad σ) r (ww_X8 Y ad σ') := by
  intro sz
  refine sg_enter (own := RX8) (maxL := 4) (ret := (some .int)) (cc := cX8_treats) (by decide +kernel) rfl rfl (Nat.le_of_ble_eq_true rfl) hZ ?_
  intro p e s m args below meth c C hr Q hQ hsz
  refine g_lv (lv2 := [(0, .ref (ad 0)), (1, .int x1), (2, .int x2), (3, .int x3)]) [0, 1, 2, 3] rfl ?_
  rw [f_X8_treats] at hF
  refine g_iload_n 1 C dX8_treats_0 rfl rfl rfl ?_
  obtain ⟨r1, q2, hF⟩ := sg_bndE hF
  refine g_callSi 4 C (w2 := (ww_X8 Y ad σ)) (As := [.int x1]) (st := []) (n0 := 1) [] [0, 1, 2, 3, 4, 5, 6, 7, 8, 9, 10, 11, 12] [0, 1, 2, 3, 4, 5, 6, 7, 8, 9, 10, 11, 12] (c_X8_isTown l hZ (ad := ad) (σ := σ) q2) gX8_treats_X8_isTown ⟨by decide +kernel, by decide +kernel, rfl⟩ rfl ⟨Nat.le_of_ble_eq_true rfl, Nat.le_of_ble_eq_true rfl⟩ ⟨rfl, rfl, rfl, by decide, rfl, rfl⟩ rfl rfl (Nat.le_of_ble_eq_true rfl) ⟨Nat.le_refl _, Nat.le_refl _⟩ dX8_treats_1 rfl rfl ?_
  refine g_if_eq 7 14 C dX8_treats_4 (by decide) rfl hF (fun hF => ?_) (fun hF => ?_)
  · refine g_aload_n 15 C dX8_treats_14 rfl rfl rfl ?_
    refine g_iconst 16 C (-1) dX8_treats_15 rfl (by decide) ?_
    obtain ⟨r5, τ3, q4, hF⟩ := sg_bnd2E hF
    refine g_callVi 19 C (w2 := (ww_X8 Y ad τ3)) (As := [.int (-1)]) (st := []) (n0 := 1) (ci := 9) (q0 := 0) [0, 1, 2, 3, 4, 5, 6, 7, 8, 9, 10, 11, 12] [] [0, 1, 2, 3, 4, 5, 6, 7, 8, 9, 10, 11, 12] (c_X8_fail l hZ (ad := ad) q4) gX8_treats_X8_fail ⟨rfl, by decide +kernel, by decide +kernel, rfl⟩ rfl ⟨Nat.le_of_ble_eq_true rfl, Nat.le_of_ble_eq_true rfl⟩ rfl rfl ⟨rfl, rfl, rfl, by decide, rfl, rfl⟩ rfl rfl (Nat.le_of_ble_eq_true rfl) ⟨Nat.le_refl _, Nat.le_refl _⟩ dX8_treats_16 rfl rfl ?_
    obtain ⟨e1, e2⟩ := sg_pairE hF
    exact g_iret C hr rfl hQ hsz dX8_treats_19 e1.symm (by rw [e2])
  · refine g_iload_n 8 C dX8_treats_7 rfl rfl rfl ?_
    obtain ⟨r6, q7, hF⟩ := sg_bndE hF
    refine g_callSi 11 C (w2 := (ww_X8 Y ad σ)) (As := [.int x2]) (st := []) (n0 := 1) [] [0, 1, 2, 3, 4, 5, 6, 7, 8, 9, 10, 11, 12] [0, 1, 2, 3, 4, 5, 6, 7, 8, 9, 10, 11, 12] (c_X8_isTown l hZ (ad := ad) (σ := σ) q7) gX8_treats_X8_isTown ⟨by decide +kernel, by decide +kernel, rfl⟩ rfl ⟨Nat.le_of_ble_eq_true rfl, Nat.le_of_ble_eq_true rfl⟩ ⟨rfl, rfl, rfl, by decide, rfl, rfl⟩ rfl rfl (Nat.le_of_ble_eq_true rfl) ⟨Nat.le_refl _, Nat.le_refl _⟩ dX8_treats_8 rfl rfl ?_
    refine g_if_ne 14 20 C dX8_treats_11 (by decide) rfl hF (fun hF => ?_) (fun hF => ?_)
    · refine g_iload_n 21 C dX8_treats_20 rfl rfl rfl ?_
      refine g_iload_n 22 C dX8_treats_21 rfl rfl rfl ?_
      refine g_icmp_ne 25 33 C dX8_treats_22 (by decide) rfl hF (fun hF => ?_) (fun hF => ?_)
      · refine g_aload_n 34 C dX8_treats_33 rfl rfl rfl ?_
        refine g_get 37 C (own := RX8) (C1 := RX8) (T := TX8) 0 8 (.ref (ad 1)) kiX8_treats_X8 kfX8_treats_13 rfl dX8_treats_34 rfl rfl rfl (by decide) rfl ?_
        refine g_bipush 39 C 30 dX8_treats_37 rfl (by decide) ?_
        refine g_iconst 40 C 5 dX8_treats_39 rfl (by decide) ?_
        refine g_iload_n 41 C dX8_treats_40 rfl rfl rfl ?_
        refine g_imul 42 C dX8_treats_41 rfl ?_
        refine g_iadd 43 C dX8_treats_42 rfl ?_
        refine g_iload_n 44 C dX8_treats_43 rfl rfl rfl ?_
        refine g_iadd 45 C dX8_treats_44 rfl ?_
        obtain ⟨h8, hF⟩ := sg_grdE hF
        refine g_ialdc 46 C 1 (((30 + (5 * x1)) + x2).toNatClampNeg) (σ 1 ((30 + (5 * x1)) + x2).toNatClampNeg) dX8_treats_45 rfl rfl rfl h8 rfl ?_
        refine g_iload_n 47 C dX8_treats_46 rfl rfl rfl ?_
        refine g_icmp_ne 50 58 C dX8_treats_47 (by decide) rfl hF (fun hF => ?_) (fun hF => ?_)
        · refine g_aload_n 59 C dX8_treats_58 rfl rfl rfl ?_
          refine g_get 62 C (own := RX8) (C1 := RX8) (T := TX8) 0 8 (.ref (ad 1)) kiX8_treats_X8 kfX8_treats_13 rfl dX8_treats_59 rfl rfl rfl (by decide) rfl ?_
          refine g_bipush 64 C 30 dX8_treats_62 rfl (by decide) ?_
          refine g_iconst 65 C 5 dX8_treats_64 rfl (by decide) ?_
          refine g_iload_n 66 C dX8_treats_65 rfl rfl rfl ?_
          refine g_imul 67 C dX8_treats_66 rfl ?_
          refine g_iadd 68 C dX8_treats_67 rfl ?_
          refine g_iload_n 69 C dX8_treats_68 rfl rfl rfl ?_
          refine g_iadd 70 C dX8_treats_69 rfl ?_
          refine g_iload_n 71 C dX8_treats_70 rfl rfl rfl ?_
          obtain ⟨σ9, eσ9, hF⟩ := sg_letE hF
          refine g_iast 72 C (w2 := (ww_X8 Y ad σ9)) 1 dX8_treats_71 rfl rfl h8 (by rw [eσ9]; rfl) ?_
          refine g_aload_n 73 C dX8_treats_72 rfl rfl rfl ?_
          refine g_get 76 C (own := RX8) (C1 := RX8) (T := TX8) 0 8 (.ref (ad 1)) kiX8_treats_X8 kfX8_treats_13 rfl dX8_treats_73 rfl rfl rfl (by decide) rfl ?_
          refine g_bipush 78 C 30 dX8_treats_76 rfl (by decide) ?_
          refine g_iconst 79 C 5 dX8_treats_78 rfl (by decide) ?_
          refine g_iload_n 80 C dX8_treats_79 rfl rfl rfl ?_
          refine g_imul 81 C dX8_treats_80 rfl ?_
          refine g_iadd 82 C dX8_treats_81 rfl ?_
          refine g_iload_n 83 C dX8_treats_82 rfl rfl rfl ?_
          refine g_iadd 84 C dX8_treats_83 rfl ?_
          refine g_iload_n 85 C dX8_treats_84 rfl rfl rfl ?_
          obtain ⟨h10, hF⟩ := sg_grdE hF
          obtain ⟨σ11, eσ11, hF⟩ := sg_letE hF
          refine g_iast 86 C (w2 := (ww_X8 Y ad σ11)) 1 dX8_treats_85 rfl rfl h10 (by rw [eσ11]; rfl) ?_
          refine g_aload_n 87 C dX8_treats_86 rfl rfl rfl ?_
          obtain ⟨r12, q13, hF⟩ := sg_bndE hF
          refine g_callVi 90 C (w2 := (ww_X8 Y ad σ11)) (As := []) (st := []) (n0 := 0) (ci := 9) (q0 := 0) [0, 1, 2, 3, 4, 5, 6, 7, 8, 9, 10, 11, 12] [] [0, 1, 2, 3, 4, 5, 6, 7, 8, 9, 10, 11, 12] (c_X8_allTreaties l hZ (ad := ad) q13) gX8_treats_X8_allTreaties ⟨rfl, by decide +kernel, by decide +kernel, rfl⟩ rfl ⟨Nat.le_of_ble_eq_true rfl, Nat.le_of_ble_eq_true rfl⟩ rfl rfl ⟨rfl, rfl, rfl, by decide, rfl, rfl⟩ rfl rfl (Nat.le_of_ble_eq_true rfl) ⟨Nat.le_refl _, Nat.le_refl _⟩ dX8_treats_87 rfl rfl ?_
          obtain ⟨e1, e2⟩ := sg_pairE hF
          exact g_iret C hr rfl hQ hsz dX8_treats_90 e1.symm (by rw [e2])
        · refine g_aload_n 51 C dX8_treats_50 rfl rfl rfl ?_
          refine g_bipush 53 C 7 dX8_treats_51 rfl (by decide) ?_
          refine g_iload_n 54 C dX8_treats_53 rfl rfl rfl ?_
          obtain ⟨r16, τ14, q15, hF⟩ := sg_bnd2E hF
          refine g_callVi 57 C (w2 := (ww_X8 Y ad τ14)) (As := [.int 7, .int x3]) (st := []) (n0 := 2) (ci := 9) (q0 := 0) [0, 1, 2, 3, 4, 5, 6, 7, 8, 9, 10, 11, 12] [] [0, 1, 2, 3, 4, 5, 6, 7, 8, 9, 10, 11, 12] (c_X8_refuses l hZ (ad := ad) q15) gX8_treats_X8_refuses ⟨rfl, by decide +kernel, by decide +kernel, rfl⟩ rfl ⟨Nat.le_of_ble_eq_true rfl, Nat.le_of_ble_eq_true rfl⟩ rfl rfl ⟨rfl, rfl, rfl, by decide, rfl, rfl⟩ rfl rfl (Nat.le_of_ble_eq_true rfl) ⟨Nat.le_refl _, Nat.le_refl _⟩ dX8_treats_54 rfl rfl ?_
          obtain ⟨e1, e2⟩ := sg_pairE hF
          exact g_iret C hr rfl hQ hsz dX8_treats_57 e1.symm (by rw [e2])
      · refine g_aload_n 26 C dX8_treats_25 rfl rfl rfl ?_
        refine g_bipush 28 C 8 dX8_treats_26 rfl (by decide) ?_
        refine g_iload_n 29 C dX8_treats_28 rfl rfl rfl ?_
        obtain ⟨r19, τ17, q18, hF⟩ := sg_bnd2E hF
        refine g_callVi 32 C (w2 := (ww_X8 Y ad τ17)) (As := [.int 8, .int x1]) (st := []) (n0 := 2) (ci := 9) (q0 := 0) [0, 1, 2, 3, 4, 5, 6, 7, 8, 9, 10, 11, 12] [] [0, 1, 2, 3, 4, 5, 6, 7, 8, 9, 10, 11, 12] (c_X8_refuses l hZ (ad := ad) q18) gX8_treats_X8_refuses ⟨rfl, by decide +kernel, by decide +kernel, rfl⟩ rfl ⟨Nat.le_of_ble_eq_true rfl, Nat.le_of_ble_eq_true rfl⟩ rfl rfl ⟨rfl, rfl, rfl, by decide, rfl, rfl⟩ rfl rfl (Nat.le_of_ble_eq_true rfl) ⟨Nat.le_refl _, Nat.le_refl _⟩ dX8_treats_29 rfl rfl ?_
        obtain ⟨e1, e2⟩ := sg_pairE hF
        exact g_iret C hr rfl hQ hsz dX8_treats_32 e1.symm (by rw [e2])
    · refine g_aload_n 15 C dX8_treats_14 rfl rfl rfl ?_
      refine g_iconst 16 C (-1) dX8_treats_15 rfl (by decide) ?_
      obtain ⟨r22, τ20, q21, hF⟩ := sg_bnd2E hF
      refine g_callVi 19 C (w2 := (ww_X8 Y ad τ20)) (As := [.int (-1)]) (st := []) (n0 := 1) (ci := 9) (q0 := 0) [0, 1, 2, 3, 4, 5, 6, 7, 8, 9, 10, 11, 12] [] [0, 1, 2, 3, 4, 5, 6, 7, 8, 9, 10, 11, 12] (c_X8_fail l hZ (ad := ad) q21) gX8_treats_X8_fail ⟨rfl, by decide +kernel, by decide +kernel, rfl⟩ rfl ⟨Nat.le_of_ble_eq_true rfl, Nat.le_of_ble_eq_true rfl⟩ rfl rfl ⟨rfl, rfl, rfl, by decide, rfl, rfl⟩ rfl rfl (Nat.le_of_ble_eq_true rfl) ⟨Nat.le_refl _, Nat.le_refl _⟩ dX8_treats_16 rfl rfl ?_
      obtain ⟨e1, e2⟩ := sg_pairE hF
      exact g_iret C hr rfl hQ hsz dX8_treats_19 e1.symm (by rw [e2])
def f_X8_treaty (x1 : Int32) (x2 : Int32) (x3 : Int32) (σ : sg_S) : Option (Int32 × sg_S) := sg_bnd (f_X8_begins  σ) (fun τ1 => (if x3 = 0 then sg_bnd2 (f_X8_treats x1 x2 0 τ1) (fun r5 τ3 => sg_bnd2 (f_X8_ends r5 τ3) (fun r8 τ6 => some (r8, τ6))) else sg_bnd2 (f_X8_treats x1 x2 1 τ1) (fun r11 τ9 => sg_bnd2 (f_X8_ends r11 τ9) (fun r14 τ12 => some (r14, τ12)))))
set_option maxHeartbeats 4000000 in
set_option maxRecDepth 100000 in
theorem c_X8_treaty (l : Launch) {D : va_G} {Y : Nat → ClassId} {Z : (Nat → Prop) → State → Heap → Prop} (hZ : sg_Zok Z) {ad : Nat → Nat} {σ : sg_S} {σ' : sg_S} {x1 x2 x3 : Int32} {r : Int32} (hF : f_X8_treaty x1 x2 x3 σ = some (r, σ')) : sg_MI l yX8_treaty wsX8_treaty 3 68 D Y Z [.ref (ad 0), .int x1, .int x2, .int x3] (ww_X8 Y ad σ) r (ww_X8 Y ad σ') := by
  intro sz
  refine sg_enter (own := RX8) (maxL := 4) (ret := (some .int)) (cc := cX8_treaty) (by decide +kernel) rfl rfl (Nat.le_of_ble_eq_true rfl) hZ ?_
  intro p e s m args below meth c C hr Q hQ hsz
  refine g_lv (lv2 := [(0, .ref (ad 0)), (1, .int x1), (2, .int x2), (3, .int x3)]) [0, 1, 2, 3] rfl ?_
  rw [f_X8_treaty] at hF
  refine g_aload_n 1 C dX8_treaty_0 rfl rfl rfl ?_
  obtain ⟨τ1, q2, hF⟩ := sg_bndE hF
  refine g_callVv 4 C (w2 := (ww_X8 Y ad τ1)) (As := []) (st := []) (n0 := 0) (ci := 9) (q0 := 0) [0, 1, 2, 3, 4, 5, 6, 7, 8, 9, 10, 11, 12] [] [0, 1, 2, 3, 4, 5, 6, 7, 8, 9, 10, 11, 12] (c_X8_begins l hZ (ad := ad) q2) gX8_treaty_X8_begins ⟨rfl, by decide +kernel, by decide +kernel, rfl⟩ rfl ⟨Nat.le_of_ble_eq_true rfl, Nat.le_of_ble_eq_true rfl⟩ rfl rfl ⟨rfl, rfl, rfl, by decide, rfl, rfl⟩ rfl rfl (Nat.le_of_ble_eq_true rfl) ⟨Nat.le_refl _, Nat.le_refl _⟩ dX8_treaty_1 rfl rfl ?_
  refine g_aload_n 5 C dX8_treaty_4 rfl rfl rfl ?_
  refine g_aload_n 6 C dX8_treaty_5 rfl rfl rfl ?_
  refine g_iload_n 7 C dX8_treaty_6 rfl rfl rfl ?_
  refine g_iload_n 8 C dX8_treaty_7 rfl rfl rfl ?_
  refine g_iload_n 9 C dX8_treaty_8 rfl rfl rfl ?_
  refine g_if_eq 12 16 C dX8_treaty_9 (by decide) rfl hF (fun hF => ?_) (fun hF => ?_)
  · refine g_iconst 17 C 0 dX8_treaty_16 rfl (by decide) ?_
    obtain ⟨r5, τ3, q4, hF⟩ := sg_bnd2E hF
    refine g_callVi 20 C (w2 := (ww_X8 Y ad τ3)) (As := [.int x1, .int x2, .int 0]) (st := [.ref (ad 0)]) (n0 := 3) (ci := 9) (q0 := 0) [0, 1, 2, 3, 4, 5, 6, 7, 8, 9, 10, 11, 12] [] [0, 1, 2, 3, 4, 5, 6, 7, 8, 9, 10, 11, 12] (c_X8_treats l hZ (ad := ad) q4) gX8_treaty_X8_treats ⟨rfl, by decide +kernel, by decide +kernel, rfl⟩ rfl ⟨Nat.le_of_ble_eq_true rfl, Nat.le_of_ble_eq_true rfl⟩ rfl rfl ⟨rfl, rfl, rfl, by decide, rfl, rfl⟩ rfl rfl (Nat.le_of_ble_eq_true rfl) ⟨Nat.le_refl _, Nat.le_refl _⟩ dX8_treaty_17 rfl rfl ?_
    obtain ⟨r8, τ6, q7, hF⟩ := sg_bnd2E hF
    refine g_callVi 23 C (w2 := (ww_X8 Y ad τ6)) (As := [.int r5]) (st := []) (n0 := 1) (ci := 9) (q0 := 0) [0, 1, 2, 3, 4, 5, 6, 7, 8, 9, 10, 11, 12] [] [0, 1, 2, 3, 4, 5, 6, 7, 8, 9, 10, 11, 12] (c_X8_ends l hZ (ad := ad) q7) gX8_treaty_X8_ends ⟨rfl, by decide +kernel, by decide +kernel, rfl⟩ rfl ⟨Nat.le_of_ble_eq_true rfl, Nat.le_of_ble_eq_true rfl⟩ rfl rfl ⟨rfl, rfl, rfl, by decide, rfl, rfl⟩ rfl rfl (Nat.le_of_ble_eq_true rfl) ⟨Nat.le_refl _, Nat.le_refl _⟩ dX8_treaty_20 rfl rfl ?_
    obtain ⟨e1, e2⟩ := sg_pairE hF
    exact g_iret C hr rfl hQ hsz dX8_treaty_23 e1.symm (by rw [e2])
  · refine g_iconst 13 C 1 dX8_treaty_12 rfl (by decide) ?_
    refine g_goto 17 C dX8_treaty_13 (by decide) ?_
    obtain ⟨r11, τ9, q10, hF⟩ := sg_bnd2E hF
    refine g_callVi 20 C (w2 := (ww_X8 Y ad τ9)) (As := [.int x1, .int x2, .int 1]) (st := [.ref (ad 0)]) (n0 := 3) (ci := 9) (q0 := 0) [0, 1, 2, 3, 4, 5, 6, 7, 8, 9, 10, 11, 12] [] [0, 1, 2, 3, 4, 5, 6, 7, 8, 9, 10, 11, 12] (c_X8_treats l hZ (ad := ad) q10) gX8_treaty_X8_treats ⟨rfl, by decide +kernel, by decide +kernel, rfl⟩ rfl ⟨Nat.le_of_ble_eq_true rfl, Nat.le_of_ble_eq_true rfl⟩ rfl rfl ⟨rfl, rfl, rfl, by decide, rfl, rfl⟩ rfl rfl (Nat.le_of_ble_eq_true rfl) ⟨Nat.le_refl _, Nat.le_refl _⟩ dX8_treaty_17 rfl rfl ?_
    obtain ⟨r14, τ12, q13, hF⟩ := sg_bnd2E hF
    refine g_callVi 23 C (w2 := (ww_X8 Y ad τ12)) (As := [.int r11]) (st := []) (n0 := 1) (ci := 9) (q0 := 0) [0, 1, 2, 3, 4, 5, 6, 7, 8, 9, 10, 11, 12] [] [0, 1, 2, 3, 4, 5, 6, 7, 8, 9, 10, 11, 12] (c_X8_ends l hZ (ad := ad) q13) gX8_treaty_X8_ends ⟨rfl, by decide +kernel, by decide +kernel, rfl⟩ rfl ⟨Nat.le_of_ble_eq_true rfl, Nat.le_of_ble_eq_true rfl⟩ rfl rfl ⟨rfl, rfl, rfl, by decide, rfl, rfl⟩ rfl rfl (Nat.le_of_ble_eq_true rfl) ⟨Nat.le_refl _, Nat.le_refl _⟩ dX8_treaty_20 rfl rfl ?_
    obtain ⟨e1, e2⟩ := sg_pairE hF
    exact g_iret C hr rfl hQ hsz dX8_treaty_23 e1.symm (by rw [e2])
theorem kiX8_finds_X8 : ∀ w ∈ u_ws RX8 TX8 27, w ∈ wsX8_finds := by decide +kernel
theorem kfX8_finds_32 : Cond.fieldLink RX8 32 "WeatherMinistryModel" "away" "[I" ∈ wsX8_finds := by decide +kernel
theorem kfX8_finds_13 : Cond.fieldLink RX8 13 "WeatherMinistryModel" "v" "[I" ∈ wsX8_finds := by decide +kernel
def f_X8_finds_L49 (x1 : Int32) (κ31 : Int32 → sg_S → Option sg_S) (κ38 : Int32 → Int32 → sg_S → Option sg_S) : Nat → Int32 → Int32 → Int32 → Int32 → sg_S → Option sg_S
  | 0, _, _, _, _, _ => none
  | nz + 1, z2, z3, z4, z5, σz => (if z5 < 5 then sg_grd (sg_in z5 5) ((if σz 7 z5.toNatClampNeg = z2 - 1 then sg_grd (sg_in ((30 + (5 * z3)) + z5) 79) ((if σz 1 ((30 + (5 * z3)) + z5).toNatClampNeg = 1 then sg_let (z4 ||| 1) (fun y7 => f_X8_finds_L49 x1 κ31 κ38 nz z2 z3 y7 (z5 + 1) σz) else sg_let (z4 ||| 0) (fun y6 => f_X8_finds_L49 x1 κ31 κ38 nz z2 z3 y6 (z5 + 1) σz))) else sg_let (z4 ||| 0) (fun y4 => f_X8_finds_L49 x1 κ31 κ38 nz z2 z3 y4 (z5 + 1) σz))) else (if z4 = 0 then κ38 z2 (z3 + 1) σz else sg_grd (sg_in z3 5) ((if σz 7 z3.toNatClampNeg < 0 then sg_let (sg_up σz 7 (z3.toNatClampNeg) z2) (fun σ2 => κ38 z2 (z3 + 1) σ2) else κ38 z2 (z3 + 1) σz))))
def f_X8_finds_L38 (x1 : Int32) (κ31 : Int32 → sg_S → Option sg_S) : Nat → Int32 → Int32 → sg_S → Option sg_S
  | 0, _, _, _ => none
  | nz + 1, z2, z3, σz => (if z3 < 5 then f_X8_finds_L49 x1 κ31 (fun z2' z3' σz' => f_X8_finds_L38 x1 κ31 nz z2' z3' σz') 1000 z2 z3 0 0 σz else κ31 (z2 + 1) σz)
def f_X8_finds_L31 (x1 : Int32) : Nat → Int32 → sg_S → Option sg_S
  | 0, _, _ => none
  | nz + 1, z2, σz => (if z2 < 5 then f_X8_finds_L38 x1 (fun z2' σz' => f_X8_finds_L31 x1 nz z2' σz') 1000 z2 0 σz else some σz)
def f_X8_finds_L2 (x1 : Int32) : Nat → Int32 → sg_S → Option sg_S
  | 0, _, _ => none
  | nz + 1, z2, σz => (if z2 < 5 then (if z2 = x1 then sg_grd (sg_in z2 5) (sg_let (sg_up σz 7 (z2.toNatClampNeg) 0) (fun σ11 => f_X8_finds_L2 x1 nz (z2 + 1) σ11)) else sg_grd (sg_in z2 5) (sg_let (sg_up σz 7 (z2.toNatClampNeg) (-1)) (fun σ9 => f_X8_finds_L2 x1 nz (z2 + 1) σ9))) else f_X8_finds_L31 x1 1000 1 σz)
def f_X8_finds (x1 : Int32) (σ : sg_S) : Option sg_S := f_X8_finds_L2 x1 1000 0 σ
set_option maxHeartbeats 4000000 in
set_option maxRecDepth 100000 in
theorem c_X8_finds (l : Launch) {D : va_G} {Y : Nat → ClassId} {Z : (Nat → Prop) → State → Heap → Prop} (hZ : sg_Zok Z) {ad : Nat → Nat} {σ : sg_S} {σ' : sg_S} {x1 : Int32} (hF : f_X8_finds x1 σ = some σ') : sg_MV l yX8_finds wsX8_finds 0 0 D Y Z [.ref (ad 0), .int x1] (ww_X8 Y ad σ) (ww_X8 Y ad σ') := by
  intro sz
  refine sg_enter (own := RX8) (maxL := 6) (ret := none) (cc := cX8_finds) (by decide +kernel) rfl rfl (Nat.le_of_ble_eq_true rfl) hZ ?_
  intro p e s m args below meth c C hr Q hQ hsz
  refine g_lv (lv2 := [(0, .ref (ad 0)), (1, .int x1)]) [0, 1] rfl ?_
  have K49 : ∀ (κ31 : Int32 → sg_S → Option sg_S), (∀ (z2 : Int32) (σz : sg_S), κ31 z2 σz = some σ' → sg_G p l e ({ frames := 0, cells := 0, slots := 0, locals := 0 } : Room) s m args below meth c D (va_A (ww_X8 Y ad σ) s.heap.size) 6 0 0 Q 31 [(0, .ref (ad 0)), (2, .int z2)] [] (ww_X8 Y ad σz)) → ∀ (κ38 : Int32 → Int32 → sg_S → Option sg_S), (∀ (z2 : Int32) (z3 : Int32) (σz : sg_S), κ38 z2 z3 σz = some σ' → sg_G p l e ({ frames := 0, cells := 0, slots := 0, locals := 0 } : Room) s m args below meth c D (va_A (ww_X8 Y ad σ) s.heap.size) 6 0 0 Q 38 [(0, .ref (ad 0)), (2, .int z2), (3, .int z3)] [] (ww_X8 Y ad σz)) → ∀ (nz : Nat), ∀ (z2 : Int32) (z3 : Int32) (z4 : Int32) (z5 : Int32) (σz : sg_S), f_X8_finds_L49 x1 κ31 κ38 nz z2 z3 z4 z5 σz = some σ' → sg_G p l e ({ frames := 0, cells := 0, slots := 0, locals := 0 } : Room) s m args below meth c D (va_A (ww_X8 Y ad σ) s.heap.size) 6 0 0 Q 49 [(0, .ref (ad 0)), (2, .int z2), (3, .int z3), (4, .int z4), (5, .int z5)] [] (ww_X8 Y ad σz) := by
    intro κ31 hκ31 κ38 hκ38 nz
    induction nz with
    | zero =>
      intro z2 z3 z4 z5 σz hF
      rw [f_X8_finds_L49.eq_1] at hF
      exact nomatch hF
    | succ nz ih =>
      intro z2 z3 z4 z5 σz hF
      rw [f_X8_finds_L49.eq_2] at hF
      refine g_iload 51 C dX8_finds_49 rfl rfl ?_
      refine g_iconst 52 C 5 dX8_finds_51 rfl (by decide) ?_
      refine g_icmp_ge 55 102 C dX8_finds_52 (by decide) rfl hF (fun hF => ?_) (fun hF => ?_)
      · refine g_iload 104 C dX8_finds_102 rfl rfl ?_
        refine g_if_eq 107 123 C dX8_finds_104 (by decide) rfl hF (fun hF => ?_) (fun hF => ?_)
        · refine g_iinc 126 C 2 (z3 + 1) [(3, .int (z3 + 1)), (0, .ref (ad 0)), (2, .int z2), (4, .int z4), (5, .int z5)] dX8_finds_123 rfl rfl rfl (by decide) rfl ?_
          refine g_goto 38 C dX8_finds_126 (by decide) ?_
          refine g_lv (lv2 := [(0, .ref (ad 0)), (2, .int z2), (3, .int (z3 + 1))]) [1, 2, 0] rfl ?_
          exact hκ38 z2 (z3 + 1) σz hF
        · refine g_aload_n 108 C dX8_finds_107 rfl rfl rfl ?_
          refine g_get 111 C (own := RX8) (C1 := RX8) (T := TX8) 0 14 (.ref (ad 7)) kiX8_finds_X8 kfX8_finds_32 rfl dX8_finds_108 rfl rfl rfl (by decide) rfl ?_
          refine g_iload_n 112 C dX8_finds_111 rfl rfl rfl ?_
          obtain ⟨h1, hF⟩ := sg_grdE hF
          refine g_ialdc 113 C 7 (z3.toNatClampNeg) (σz 7 z3.toNatClampNeg) dX8_finds_112 rfl rfl rfl h1 rfl ?_
          refine g_if_ge 116 123 C dX8_finds_113 (by decide) rfl hF (fun hF => ?_) (fun hF => ?_)
          · refine g_iinc 126 C 2 (z3 + 1) [(3, .int (z3 + 1)), (0, .ref (ad 0)), (2, .int z2), (4, .int z4), (5, .int z5)] dX8_finds_123 rfl rfl rfl (by decide) rfl ?_
            refine g_goto 38 C dX8_finds_126 (by decide) ?_
            refine g_lv (lv2 := [(0, .ref (ad 0)), (2, .int z2), (3, .int (z3 + 1))]) [1, 2, 0] rfl ?_
            exact hκ38 z2 (z3 + 1) σz hF
          · refine g_aload_n 117 C dX8_finds_116 rfl rfl rfl ?_
            refine g_get 120 C (own := RX8) (C1 := RX8) (T := TX8) 0 14 (.ref (ad 7)) kiX8_finds_X8 kfX8_finds_32 rfl dX8_finds_117 rfl rfl rfl (by decide) rfl ?_
            refine g_iload_n 121 C dX8_finds_120 rfl rfl rfl ?_
            refine g_iload_n 122 C dX8_finds_121 rfl rfl rfl ?_
            obtain ⟨σ2, eσ2, hF⟩ := sg_letE hF
            refine g_iast 123 C (w2 := (ww_X8 Y ad σ2)) 7 dX8_finds_122 rfl rfl h1 (by rw [eσ2]; rfl) ?_
            refine g_iinc 126 C 2 (z3 + 1) [(3, .int (z3 + 1)), (0, .ref (ad 0)), (2, .int z2), (4, .int z4), (5, .int z5)] dX8_finds_123 rfl rfl rfl (by decide) rfl ?_
            refine g_goto 38 C dX8_finds_126 (by decide) ?_
            refine g_lv (lv2 := [(0, .ref (ad 0)), (2, .int z2), (3, .int (z3 + 1))]) [1, 2, 0] rfl ?_
            exact hκ38 z2 (z3 + 1) σ2 hF
      · refine g_iload 57 C dX8_finds_55 rfl rfl ?_
        refine g_aload_n 58 C dX8_finds_57 rfl rfl rfl ?_
        refine g_get 61 C (own := RX8) (C1 := RX8) (T := TX8) 0 14 (.ref (ad 7)) kiX8_finds_X8 kfX8_finds_32 rfl dX8_finds_58 rfl rfl rfl (by decide) rfl ?_
        refine g_iload 63 C dX8_finds_61 rfl rfl ?_
        obtain ⟨h3, hF⟩ := sg_grdE hF
        refine g_ialdc 64 C 7 (z5.toNatClampNeg) (σz 7 z5.toNatClampNeg) dX8_finds_63 rfl rfl rfl h3 rfl ?_
        refine g_iload_n 65 C dX8_finds_64 rfl rfl rfl ?_
        refine g_iconst 66 C 1 dX8_finds_65 rfl (by decide) ?_
        refine g_isub 67 C dX8_finds_66 rfl ?_
        refine g_icmp_ne 70 92 C dX8_finds_67 (by decide) rfl hF (fun hF => ?_) (fun hF => ?_)
        · refine g_iconst 93 C 0 dX8_finds_92 rfl (by decide) ?_
          refine g_ior 94 C dX8_finds_93 rfl ?_
          obtain ⟨y4, ey4, hF⟩ := sg_letE hF
          refine g_top ey4 ?_
          refine g_istore 96 C [(4, .int y4), (0, .ref (ad 0)), (2, .int z2), (3, .int z3), (5, .int z5)] dX8_finds_94 rfl (by decide) rfl ?_
          refine g_iinc 99 C 4 (z5 + 1) [(5, .int (z5 + 1)), (4, .int y4), (0, .ref (ad 0)), (2, .int z2), (3, .int z3)] dX8_finds_96 rfl rfl rfl (by decide) rfl ?_
          refine g_goto 49 C dX8_finds_99 (by decide) ?_
          refine g_lv (lv2 := [(0, .ref (ad 0)), (2, .int z2), (3, .int z3), (4, .int y4), (5, .int (z5 + 1))]) [2, 3, 4, 1, 0] rfl ?_
          exact ih z2 z3 y4 (z5 + 1) σz hF
        · refine g_aload_n 71 C dX8_finds_70 rfl rfl rfl ?_
          refine g_get 74 C (own := RX8) (C1 := RX8) (T := TX8) 0 8 (.ref (ad 1)) kiX8_finds_X8 kfX8_finds_13 rfl dX8_finds_71 rfl rfl rfl (by decide) rfl ?_
          refine g_bipush 76 C 30 dX8_finds_74 rfl (by decide) ?_
          refine g_iconst 77 C 5 dX8_finds_76 rfl (by decide) ?_
          refine g_iload_n 78 C dX8_finds_77 rfl rfl rfl ?_
          refine g_imul 79 C dX8_finds_78 rfl ?_
          refine g_iadd 80 C dX8_finds_79 rfl ?_
          refine g_iload 82 C dX8_finds_80 rfl rfl ?_
          refine g_iadd 83 C dX8_finds_82 rfl ?_
          obtain ⟨h5, hF⟩ := sg_grdE hF
          refine g_ialdc 84 C 1 (((30 + (5 * z3)) + z5).toNatClampNeg) (σz 1 ((30 + (5 * z3)) + z5).toNatClampNeg) dX8_finds_83 rfl rfl rfl h5 rfl ?_
          refine g_iconst 85 C 1 dX8_finds_84 rfl (by decide) ?_
          refine g_icmp_ne 88 92 C dX8_finds_85 (by decide) rfl hF (fun hF => ?_) (fun hF => ?_)
          · refine g_iconst 93 C 0 dX8_finds_92 rfl (by decide) ?_
            refine g_ior 94 C dX8_finds_93 rfl ?_
            obtain ⟨y6, ey6, hF⟩ := sg_letE hF
            refine g_top ey6 ?_
            refine g_istore 96 C [(4, .int y6), (0, .ref (ad 0)), (2, .int z2), (3, .int z3), (5, .int z5)] dX8_finds_94 rfl (by decide) rfl ?_
            refine g_iinc 99 C 4 (z5 + 1) [(5, .int (z5 + 1)), (4, .int y6), (0, .ref (ad 0)), (2, .int z2), (3, .int z3)] dX8_finds_96 rfl rfl rfl (by decide) rfl ?_
            refine g_goto 49 C dX8_finds_99 (by decide) ?_
            refine g_lv (lv2 := [(0, .ref (ad 0)), (2, .int z2), (3, .int z3), (4, .int y6), (5, .int (z5 + 1))]) [2, 3, 4, 1, 0] rfl ?_
            exact ih z2 z3 y6 (z5 + 1) σz hF
          · refine g_iconst 89 C 1 dX8_finds_88 rfl (by decide) ?_
            refine g_goto 93 C dX8_finds_89 (by decide) ?_
            refine g_ior 94 C dX8_finds_93 rfl ?_
            obtain ⟨y7, ey7, hF⟩ := sg_letE hF
            refine g_top ey7 ?_
            refine g_istore 96 C [(4, .int y7), (0, .ref (ad 0)), (2, .int z2), (3, .int z3), (5, .int z5)] dX8_finds_94 rfl (by decide) rfl ?_
            refine g_iinc 99 C 4 (z5 + 1) [(5, .int (z5 + 1)), (4, .int y7), (0, .ref (ad 0)), (2, .int z2), (3, .int z3)] dX8_finds_96 rfl rfl rfl (by decide) rfl ?_
            refine g_goto 49 C dX8_finds_99 (by decide) ?_
            refine g_lv (lv2 := [(0, .ref (ad 0)), (2, .int z2), (3, .int z3), (4, .int y7), (5, .int (z5 + 1))]) [2, 3, 4, 1, 0] rfl ?_
            exact ih z2 z3 y7 (z5 + 1) σz hF
  have K38 : ∀ (κ31 : Int32 → sg_S → Option sg_S), (∀ (z2 : Int32) (σz : sg_S), κ31 z2 σz = some σ' → sg_G p l e ({ frames := 0, cells := 0, slots := 0, locals := 0 } : Room) s m args below meth c D (va_A (ww_X8 Y ad σ) s.heap.size) 6 0 0 Q 31 [(0, .ref (ad 0)), (2, .int z2)] [] (ww_X8 Y ad σz)) → ∀ (nz : Nat), ∀ (z2 : Int32) (z3 : Int32) (σz : sg_S), f_X8_finds_L38 x1 κ31 nz z2 z3 σz = some σ' → sg_G p l e ({ frames := 0, cells := 0, slots := 0, locals := 0 } : Room) s m args below meth c D (va_A (ww_X8 Y ad σ) s.heap.size) 6 0 0 Q 38 [(0, .ref (ad 0)), (2, .int z2), (3, .int z3)] [] (ww_X8 Y ad σz) := by
    intro κ31 hκ31 nz
    induction nz with
    | zero =>
      intro z2 z3 σz hF
      rw [f_X8_finds_L38.eq_1] at hF
      exact nomatch hF
    | succ nz ih =>
      intro z2 z3 σz hF
      rw [f_X8_finds_L38.eq_2] at hF
      refine g_iload_n 39 C dX8_finds_38 rfl rfl rfl ?_
      refine g_iconst 40 C 5 dX8_finds_39 rfl (by decide) ?_
      refine g_icmp_ge 43 129 C dX8_finds_40 (by decide) rfl hF (fun hF => ?_) (fun hF => ?_)
      · refine g_iinc 132 C 1 (z2 + 1) [(2, .int (z2 + 1)), (0, .ref (ad 0)), (3, .int z3)] dX8_finds_129 rfl rfl rfl (by decide) rfl ?_
        refine g_goto 31 C dX8_finds_132 (by decide) ?_
        refine g_lv (lv2 := [(0, .ref (ad 0)), (2, .int (z2 + 1))]) [1, 0] rfl ?_
        exact hκ31 (z2 + 1) σz hF
      · refine g_iconst 44 C 0 dX8_finds_43 rfl (by decide) ?_
        refine g_istore 46 C [(4, .int 0), (0, .ref (ad 0)), (2, .int z2), (3, .int z3)] dX8_finds_44 rfl (by decide) rfl ?_
        refine g_iconst 47 C 0 dX8_finds_46 rfl (by decide) ?_
        refine g_istore 49 C [(5, .int 0), (4, .int 0), (0, .ref (ad 0)), (2, .int z2), (3, .int z3)] dX8_finds_47 rfl (by decide) rfl ?_
        refine g_lv (lv2 := [(0, .ref (ad 0)), (2, .int z2), (3, .int z3), (4, .int 0), (5, .int 0)]) [2, 3, 4, 1, 0] rfl ?_
        exact K49 κ31 hκ31 (fun z2' z3' σz' => f_X8_finds_L38 x1 κ31 nz z2' z3' σz') ih 1000 z2 z3 0 0 σz hF
  have K31 : ∀ (nz : Nat), ∀ (z2 : Int32) (σz : sg_S), f_X8_finds_L31 x1 nz z2 σz = some σ' → sg_G p l e ({ frames := 0, cells := 0, slots := 0, locals := 0 } : Room) s m args below meth c D (va_A (ww_X8 Y ad σ) s.heap.size) 6 0 0 Q 31 [(0, .ref (ad 0)), (2, .int z2)] [] (ww_X8 Y ad σz) := by
    intro nz
    induction nz with
    | zero =>
      intro z2 σz hF
      rw [f_X8_finds_L31.eq_1] at hF
      exact nomatch hF
    | succ nz ih =>
      intro z2 σz hF
      rw [f_X8_finds_L31.eq_2] at hF
      refine g_iload_n 32 C dX8_finds_31 rfl rfl rfl ?_
      refine g_iconst 33 C 5 dX8_finds_32 rfl (by decide) ?_
      refine g_icmp_ge 36 135 C dX8_finds_33 (by decide) rfl hF (fun hF => ?_) (fun hF => ?_)
      · have e2 := sg_someE hF
        exact g_vret C hr hQ hsz dX8_finds_135 (by rw [e2])
      · refine g_iconst 37 C 0 dX8_finds_36 rfl (by decide) ?_
        refine g_istore_n 38 C [(3, .int 0), (0, .ref (ad 0)), (2, .int z2)] dX8_finds_37 rfl rfl (by decide) rfl ?_
        refine g_lv (lv2 := [(0, .ref (ad 0)), (2, .int z2), (3, .int 0)]) [1, 2, 0] rfl ?_
        exact K38 (fun z2' σz' => f_X8_finds_L31 x1 nz z2' σz') ih 1000 z2 0 σz hF
  have K2 : ∀ (nz : Nat), ∀ (z2 : Int32) (σz : sg_S), f_X8_finds_L2 x1 nz z2 σz = some σ' → sg_G p l e ({ frames := 0, cells := 0, slots := 0, locals := 0 } : Room) s m args below meth c D (va_A (ww_X8 Y ad σ) s.heap.size) 6 0 0 Q 2 [(0, .ref (ad 0)), (1, .int x1), (2, .int z2)] [] (ww_X8 Y ad σz) := by
    intro nz
    induction nz with
    | zero =>
      intro z2 σz hF
      rw [f_X8_finds_L2.eq_1] at hF
      exact nomatch hF
    | succ nz ih =>
      intro z2 σz hF
      rw [f_X8_finds_L2.eq_2] at hF
      refine g_iload_n 3 C dX8_finds_2 rfl rfl rfl ?_
      refine g_iconst 4 C 5 dX8_finds_3 rfl (by decide) ?_
      refine g_icmp_ge 7 29 C dX8_finds_4 (by decide) rfl hF (fun hF => ?_) (fun hF => ?_)
      · refine g_iconst 30 C 1 dX8_finds_29 rfl (by decide) ?_
        refine g_istore_n 31 C [(2, .int 1), (0, .ref (ad 0)), (1, .int x1)] dX8_finds_30 rfl rfl (by decide) rfl ?_
        refine g_lv (lv2 := [(0, .ref (ad 0)), (2, .int 1)]) [1, 0] rfl ?_
        exact K31  1000 1 σz hF
      · refine g_aload_n 8 C dX8_finds_7 rfl rfl rfl ?_
        refine g_get 11 C (own := RX8) (C1 := RX8) (T := TX8) 0 14 (.ref (ad 7)) kiX8_finds_X8 kfX8_finds_32 rfl dX8_finds_8 rfl rfl rfl (by decide) rfl ?_
        refine g_iload_n 12 C dX8_finds_11 rfl rfl rfl ?_
        refine g_iload_n 13 C dX8_finds_12 rfl rfl rfl ?_
        refine g_iload_n 14 C dX8_finds_13 rfl rfl rfl ?_
        refine g_icmp_ne 17 21 C dX8_finds_14 (by decide) rfl hF (fun hF => ?_) (fun hF => ?_)
        · refine g_iconst 22 C (-1) dX8_finds_21 rfl (by decide) ?_
          obtain ⟨h8, hF⟩ := sg_grdE hF
          obtain ⟨σ9, eσ9, hF⟩ := sg_letE hF
          refine g_iast 23 C (w2 := (ww_X8 Y ad σ9)) 7 dX8_finds_22 rfl rfl h8 (by rw [eσ9]; rfl) ?_
          refine g_iinc 26 C 2 (z2 + 1) [(2, .int (z2 + 1)), (0, .ref (ad 0)), (1, .int x1)] dX8_finds_23 rfl rfl rfl (by decide) rfl ?_
          refine g_goto 2 C dX8_finds_26 (by decide) ?_
          refine g_lv (lv2 := [(0, .ref (ad 0)), (1, .int x1), (2, .int (z2 + 1))]) [1, 2, 0] rfl ?_
          exact ih (z2 + 1) σ9 hF
        · refine g_iconst 18 C 0 dX8_finds_17 rfl (by decide) ?_
          refine g_goto 22 C dX8_finds_18 (by decide) ?_
          obtain ⟨h10, hF⟩ := sg_grdE hF
          obtain ⟨σ11, eσ11, hF⟩ := sg_letE hF
          refine g_iast 23 C (w2 := (ww_X8 Y ad σ11)) 7 dX8_finds_22 rfl rfl h10 (by rw [eσ11]; rfl) ?_
          refine g_iinc 26 C 2 (z2 + 1) [(2, .int (z2 + 1)), (0, .ref (ad 0)), (1, .int x1)] dX8_finds_23 rfl rfl rfl (by decide) rfl ?_
          refine g_goto 2 C dX8_finds_26 (by decide) ?_
          refine g_lv (lv2 := [(0, .ref (ad 0)), (1, .int x1), (2, .int (z2 + 1))]) [1, 2, 0] rfl ?_
          exact ih (z2 + 1) σ11 hF
  rw [f_X8_finds] at hF
  refine g_iconst 1 C 0 dX8_finds_0 rfl (by decide) ?_
  refine g_istore_n 2 C [(2, .int 0), (0, .ref (ad 0)), (1, .int x1)] dX8_finds_1 rfl rfl (by decide) rfl ?_
  refine g_lv (lv2 := [(0, .ref (ad 0)), (1, .int x1), (2, .int 0)]) [1, 2, 0] rfl ?_
  exact K2  1000 0 σ hF
theorem kiX8_share_X8 : ∀ w ∈ u_ws RX8 TX8 27, w ∈ wsX8_share := by decide +kernel
theorem kfX8_share_32 : Cond.fieldLink RX8 32 "WeatherMinistryModel" "away" "[I" ∈ wsX8_share := by decide +kernel
def f_X8_share_L18 (x1 : Int32) (x2 : Int32) (σ : sg_S) : Nat → Int32 → Int32 → Option Int32
  | 0, _, _ => none
  | nz + 1, z3, z4 => sg_grd (sg_in x1 5) ((if z4 < σ 7 x1.toNatClampNeg then sg_let (z3 / 2) (fun y3 => f_X8_share_L18 x1 x2 σ nz y3 (z4 + 1)) else some z3))
def f_X8_share (x1 : Int32) (x2 : Int32) (σ : sg_S) : Option Int32 := sg_grd (sg_in x1 5) ((if σ 7 x1.toNatClampNeg < 0 then f_X8_share_L18 x1 x2 σ 1000 0 0 else f_X8_share_L18 x1 x2 σ 1000 x2 0))
set_option maxHeartbeats 4000000 in
set_option maxRecDepth 100000 in
theorem c_X8_share (l : Launch) {D : va_G} {Y : Nat → ClassId} {Z : (Nat → Prop) → State → Heap → Prop} (hZ : sg_Zok Z) {ad : Nat → Nat} {σ : sg_S} {x1 x2 : Int32} {r : Int32} (hF : f_X8_share x1 x2 σ = some r) : sg_MI l yX8_share wsX8_share 0 0 D Y Z [.ref (ad 0), .int x1, .int x2] (ww_X8 Y ad σ) r (ww_X8 Y ad σ) := by
  intro sz
  refine sg_enter (own := RX8) (maxL := 5) (ret := (some .int)) (cc := cX8_share) (by decide +kernel) rfl rfl (Nat.le_of_ble_eq_true rfl) hZ ?_
  intro p e s m args below meth c C hr Q hQ hsz
  refine g_lv (lv2 := [(0, .ref (ad 0)), (1, .int x1), (2, .int x2)]) [0, 1, 2] rfl ?_
  have K18 : ∀ (nz : Nat), ∀ (z3 : Int32) (z4 : Int32), f_X8_share_L18 x1 x2 σ nz z3 z4 = some r → sg_G p l e ({ frames := 0, cells := 0, slots := 0, locals := 0 } : Room) s m args below meth c D (va_A (ww_X8 Y ad σ) s.heap.size) 5 0 0 Q 18 [(0, .ref (ad 0)), (1, .int x1), (3, .int z3), (4, .int z4)] [] (ww_X8 Y ad σ) := by
    intro nz
    induction nz with
    | zero =>
      intro z3 z4 hF
      rw [f_X8_share_L18.eq_1] at hF
      exact nomatch hF
    | succ nz ih =>
      intro z3 z4 hF
      rw [f_X8_share_L18.eq_2] at hF
      refine g_iload 20 C dX8_share_18 rfl rfl ?_
      refine g_aload_n 21 C dX8_share_20 rfl rfl rfl ?_
      refine g_get 24 C (own := RX8) (C1 := RX8) (T := TX8) 0 14 (.ref (ad 7)) kiX8_share_X8 kfX8_share_32 rfl dX8_share_21 rfl rfl rfl (by decide) rfl ?_
      refine g_iload_n 25 C dX8_share_24 rfl rfl rfl ?_
      obtain ⟨h2, hF⟩ := sg_grdE hF
      refine g_ialdc 26 C 7 (x1.toNatClampNeg) (σ 7 x1.toNatClampNeg) dX8_share_25 rfl rfl rfl h2 rfl ?_
      refine g_icmp_ge 29 39 C dX8_share_26 (by decide) rfl hF (fun hF => ?_) (fun hF => ?_)
      · refine g_iload_n 40 C dX8_share_39 rfl rfl rfl ?_
        have e1 := sg_someE hF
        exact g_iret C hr rfl hQ hsz dX8_share_40 e1.symm rfl
      · refine g_iload_n 30 C dX8_share_29 rfl rfl rfl ?_
        refine g_iconst 31 C 2 dX8_share_30 rfl (by decide) ?_
        refine g_idivc 32 C dX8_share_31 rfl (by decide) ?_
        obtain ⟨y3, ey3, hF⟩ := sg_letE hF
        refine g_top ey3 ?_
        refine g_istore_n 33 C [(3, .int y3), (0, .ref (ad 0)), (1, .int x1), (4, .int z4)] dX8_share_32 rfl rfl (by decide) rfl ?_
        refine g_iinc 36 C 3 (z4 + 1) [(4, .int (z4 + 1)), (3, .int y3), (0, .ref (ad 0)), (1, .int x1)] dX8_share_33 rfl rfl rfl (by decide) rfl ?_
        refine g_goto 18 C dX8_share_36 (by decide) ?_
        refine g_lv (lv2 := [(0, .ref (ad 0)), (1, .int x1), (3, .int y3), (4, .int (z4 + 1))]) [2, 3, 1, 0] rfl ?_
        exact ih y3 (z4 + 1) hF
  rw [f_X8_share] at hF
  refine g_aload_n 1 C dX8_share_0 rfl rfl rfl ?_
  refine g_get 4 C (own := RX8) (C1 := RX8) (T := TX8) 0 14 (.ref (ad 7)) kiX8_share_X8 kfX8_share_32 rfl dX8_share_1 rfl rfl rfl (by decide) rfl ?_
  refine g_iload_n 5 C dX8_share_4 rfl rfl rfl ?_
  obtain ⟨h1, hF⟩ := sg_grdE hF
  refine g_ialdc 6 C 7 (x1.toNatClampNeg) (σ 7 x1.toNatClampNeg) dX8_share_5 rfl rfl rfl h1 rfl ?_
  refine g_if_ge 9 13 C dX8_share_6 (by decide) rfl hF (fun hF => ?_) (fun hF => ?_)
  · refine g_iload_n 14 C dX8_share_13 rfl rfl rfl ?_
    refine g_istore_n 15 C [(3, .int x2), (0, .ref (ad 0)), (1, .int x1), (2, .int x2)] dX8_share_14 rfl rfl (by decide) rfl ?_
    refine g_iconst 16 C 0 dX8_share_15 rfl (by decide) ?_
    refine g_istore 18 C [(4, .int 0), (3, .int x2), (0, .ref (ad 0)), (1, .int x1), (2, .int x2)] dX8_share_16 rfl (by decide) rfl ?_
    refine g_lv (lv2 := [(0, .ref (ad 0)), (1, .int x1), (3, .int x2), (4, .int 0)]) [2, 3, 1, 0] rfl ?_
    exact K18  1000 x2 0 hF
  · refine g_iconst 10 C 0 dX8_share_9 rfl (by decide) ?_
    refine g_goto 14 C dX8_share_10 (by decide) ?_
    refine g_istore_n 15 C [(3, .int 0), (0, .ref (ad 0)), (1, .int x1), (2, .int x2)] dX8_share_14 rfl rfl (by decide) rfl ?_
    refine g_iconst 16 C 0 dX8_share_15 rfl (by decide) ?_
    refine g_istore 18 C [(4, .int 0), (3, .int 0), (0, .ref (ad 0)), (1, .int x1), (2, .int x2)] dX8_share_16 rfl (by decide) rfl ?_
    refine g_lv (lv2 := [(0, .ref (ad 0)), (1, .int x1), (3, .int 0), (4, .int 0)]) [2, 3, 1, 0] rfl ?_
    exact K18  1000 0 0 hF
theorem kiX8_rains_X8 : ∀ w ∈ u_ws RX8 TX8 27, w ∈ wsX8_rains := by decide +kernel
theorem kfX8_rains_13 : Cond.fieldLink RX8 13 "WeatherMinistryModel" "v" "[I" ∈ wsX8_rains := by decide +kernel
def f_X8_rains_L10 (x1 : Int32) (x2 : Int32) : Nat → Int32 → Int32 → sg_S → Option (Int32 × sg_S)
  | 0, _, _, _ => none
  | nz + 1, z3, z4, σz => (if z4 < 5 then sg_bnd (f_X8_share z4 x2 σz) (fun r3 => sg_bnd (f_X8_at z4 1) (fun r5 => sg_grd (sg_in r5 79) (sg_let ((σz 1 r5.toNatClampNeg) + r3) (fun y8 => sg_let (z3 + r3) (fun y9 => sg_bnd (f_X8_at z4 1) (fun r10 => (if 60 < y8 then sg_grd (sg_in r10 79) (sg_let (sg_up σz 1 (r10.toNatClampNeg) 60) (fun σ15 => f_X8_rains_L10 x1 x2 nz y9 (z4 + 1) σ15)) else sg_grd (sg_in r10 79) (sg_let (sg_up σz 1 (r10.toNatClampNeg) y8) (fun σ13 => f_X8_rains_L10 x1 x2 nz y9 (z4 + 1) σ13))))))))) else some (z3, σz))
def f_X8_rains (x1 : Int32) (x2 : Int32) (σ : sg_S) : Option (Int32 × sg_S) := sg_bnd (f_X8_finds x1 σ) (fun τ1 => f_X8_rains_L10 x1 x2 1000 0 0 τ1)
set_option maxHeartbeats 4000000 in
set_option maxRecDepth 100000 in
theorem c_X8_rains (l : Launch) {D : va_G} {Y : Nat → ClassId} {Z : (Nat → Prop) → State → Heap → Prop} (hZ : sg_Zok Z) {ad : Nat → Nat} {σ : sg_S} {σ' : sg_S} {x1 x2 : Int32} {r : Int32} (hF : f_X8_rains x1 x2 σ = some (r, σ')) : sg_MI l yX8_rains wsX8_rains 1 25 D Y Z [.ref (ad 0), .int x1, .int x2] (ww_X8 Y ad σ) r (ww_X8 Y ad σ') := by
  intro sz
  refine sg_enter (own := RX8) (maxL := 7) (ret := (some .int)) (cc := cX8_rains) (by decide +kernel) rfl rfl (Nat.le_of_ble_eq_true rfl) hZ ?_
  intro p e s m args below meth c C hr Q hQ hsz
  refine g_lv (lv2 := [(0, .ref (ad 0)), (1, .int x1), (2, .int x2)]) [0, 1, 2] rfl ?_
  have K10 : ∀ (nz : Nat), ∀ (z3 : Int32) (z4 : Int32) (σz : sg_S), f_X8_rains_L10 x1 x2 nz z3 z4 σz = some (r, σ') → sg_G p l e ({ frames := 1, cells := 0, slots := 0, locals := 25 } : Room) s m args below meth c D (va_A (ww_X8 Y ad σ) s.heap.size) 7 0 0 Q 10 [(0, .ref (ad 0)), (2, .int x2), (3, .int z3), (4, .int z4)] [] (ww_X8 Y ad σz) := by
    intro nz
    induction nz with
    | zero =>
      intro z3 z4 σz hF
      rw [f_X8_rains_L10.eq_1] at hF
      exact nomatch hF
    | succ nz ih =>
      intro z3 z4 σz hF
      rw [f_X8_rains_L10.eq_2] at hF
      refine g_iload 12 C dX8_rains_10 rfl rfl ?_
      refine g_iconst 13 C 5 dX8_rains_12 rfl (by decide) ?_
      refine g_icmp_ge 16 77 C dX8_rains_13 (by decide) rfl hF (fun hF => ?_) (fun hF => ?_)
      · refine g_iload_n 78 C dX8_rains_77 rfl rfl rfl ?_
        obtain ⟨e1, e2⟩ := sg_pairE hF
        exact g_iret C hr rfl hQ hsz dX8_rains_78 e1.symm (by rw [e2])
      · refine g_aload_n 17 C dX8_rains_16 rfl rfl rfl ?_
        refine g_iload 19 C dX8_rains_17 rfl rfl ?_
        refine g_iload_n 20 C dX8_rains_19 rfl rfl rfl ?_
        obtain ⟨r3, q4, hF⟩ := sg_bndE hF
        refine g_callVi 23 C (w2 := (ww_X8 Y ad σz)) (As := [.int z4, .int x2]) (st := []) (n0 := 2) (ci := 9) (q0 := 0) [0, 1, 2, 3, 4, 5, 6, 7, 8, 9, 10, 11, 12] [] [0, 1, 2, 3, 4, 5, 6, 7, 8, 9, 10, 11, 12] (c_X8_share l hZ (ad := ad) q4) gX8_rains_X8_share ⟨rfl, by decide +kernel, by decide +kernel, rfl⟩ rfl ⟨Nat.le_of_ble_eq_true rfl, Nat.le_of_ble_eq_true rfl⟩ rfl rfl ⟨rfl, rfl, rfl, by decide, rfl, rfl⟩ rfl rfl (Nat.le_of_ble_eq_true rfl) ⟨Nat.le_refl _, Nat.le_refl _⟩ dX8_rains_20 rfl rfl ?_
        refine g_istore 25 C [(5, .int r3), (0, .ref (ad 0)), (2, .int x2), (3, .int z3), (4, .int z4)] dX8_rains_23 rfl (by decide) rfl ?_
        refine g_aload_n 26 C dX8_rains_25 rfl rfl rfl ?_
        refine g_get 29 C (own := RX8) (C1 := RX8) (T := TX8) 0 8 (.ref (ad 1)) kiX8_rains_X8 kfX8_rains_13 rfl dX8_rains_26 rfl rfl rfl (by decide) rfl ?_
        refine g_iload 31 C dX8_rains_29 rfl rfl ?_
        refine g_iconst 32 C 1 dX8_rains_31 rfl (by decide) ?_
        obtain ⟨r5, q6, hF⟩ := sg_bndE hF
        refine g_callSi 35 C (w2 := (ww_X8 Y ad σz)) (As := [.int z4, .int 1]) (st := [.ref (ad 1)]) (n0 := 2) [] [0, 1, 2, 3, 4, 5, 6, 7, 8, 9, 10, 11, 12] [0, 1, 2, 3, 4, 5, 6, 7, 8, 9, 10, 11, 12] (c_X8_at l hZ (ad := ad) (σ := σz) q6) gX8_rains_X8_at ⟨by decide +kernel, by decide +kernel, rfl⟩ rfl ⟨Nat.le_of_ble_eq_true rfl, Nat.le_of_ble_eq_true rfl⟩ ⟨rfl, rfl, rfl, by decide, rfl, rfl⟩ rfl rfl (Nat.le_of_ble_eq_true rfl) ⟨Nat.le_refl _, Nat.le_refl _⟩ dX8_rains_32 rfl rfl ?_
        obtain ⟨h7, hF⟩ := sg_grdE hF
        refine g_ialdc 36 C 1 (r5.toNatClampNeg) (σz 1 r5.toNatClampNeg) dX8_rains_35 rfl rfl rfl h7 rfl ?_
        refine g_iload 38 C dX8_rains_36 rfl rfl ?_
        refine g_iadd 39 C dX8_rains_38 rfl ?_
        obtain ⟨y8, ey8, hF⟩ := sg_letE hF
        refine g_top ey8 ?_
        refine g_istore 41 C [(6, .int y8), (5, .int r3), (0, .ref (ad 0)), (2, .int x2), (3, .int z3), (4, .int z4)] dX8_rains_39 rfl (by decide) rfl ?_
        refine g_iload_n 42 C dX8_rains_41 rfl rfl rfl ?_
        refine g_iload 44 C dX8_rains_42 rfl rfl ?_
        refine g_iadd 45 C dX8_rains_44 rfl ?_
        obtain ⟨y9, ey9, hF⟩ := sg_letE hF
        refine g_top ey9 ?_
        refine g_istore_n 46 C [(3, .int y9), (6, .int y8), (5, .int r3), (0, .ref (ad 0)), (2, .int x2), (4, .int z4)] dX8_rains_45 rfl rfl (by decide) rfl ?_
        refine g_aload_n 47 C dX8_rains_46 rfl rfl rfl ?_
        refine g_get 50 C (own := RX8) (C1 := RX8) (T := TX8) 0 8 (.ref (ad 1)) kiX8_rains_X8 kfX8_rains_13 rfl dX8_rains_47 rfl rfl rfl (by decide) rfl ?_
        refine g_iload 52 C dX8_rains_50 rfl rfl ?_
        refine g_iconst 53 C 1 dX8_rains_52 rfl (by decide) ?_
        obtain ⟨r10, q11, hF⟩ := sg_bndE hF
        refine g_callSi 56 C (w2 := (ww_X8 Y ad σz)) (As := [.int z4, .int 1]) (st := [.ref (ad 1)]) (n0 := 2) [] [0, 1, 2, 3, 4, 5, 6, 7, 8, 9, 10, 11, 12] [0, 1, 2, 3, 4, 5, 6, 7, 8, 9, 10, 11, 12] (c_X8_at l hZ (ad := ad) (σ := σz) q11) gX8_rains_X8_at ⟨by decide +kernel, by decide +kernel, rfl⟩ rfl ⟨Nat.le_of_ble_eq_true rfl, Nat.le_of_ble_eq_true rfl⟩ ⟨rfl, rfl, rfl, by decide, rfl, rfl⟩ rfl rfl (Nat.le_of_ble_eq_true rfl) ⟨Nat.le_refl _, Nat.le_refl _⟩ dX8_rains_53 rfl rfl ?_
        refine g_iload 58 C dX8_rains_56 rfl rfl ?_
        refine g_bipush 60 C 60 dX8_rains_58 rfl (by decide) ?_
        refine g_icmp_le 63 68 C dX8_rains_60 (by decide) rfl hF (fun hF => ?_) (fun hF => ?_)
        · refine g_iload 70 C dX8_rains_68 rfl rfl ?_
          obtain ⟨h12, hF⟩ := sg_grdE hF
          obtain ⟨σ13, eσ13, hF⟩ := sg_letE hF
          refine g_iast 71 C (w2 := (ww_X8 Y ad σ13)) 1 dX8_rains_70 rfl rfl h12 (by rw [eσ13]; rfl) ?_
          refine g_iinc 74 C 5 (z4 + 1) [(4, .int (z4 + 1)), (3, .int y9), (6, .int y8), (5, .int r3), (0, .ref (ad 0)), (2, .int x2)] dX8_rains_71 rfl rfl rfl (by decide) rfl ?_
          refine g_goto 10 C dX8_rains_74 (by decide) ?_
          refine g_lv (lv2 := [(0, .ref (ad 0)), (2, .int x2), (3, .int y9), (4, .int (z4 + 1))]) [4, 5, 1, 0] rfl ?_
          exact ih y9 (z4 + 1) σ13 hF
        · refine g_bipush 65 C 60 dX8_rains_63 rfl (by decide) ?_
          refine g_goto 70 C dX8_rains_65 (by decide) ?_
          obtain ⟨h14, hF⟩ := sg_grdE hF
          obtain ⟨σ15, eσ15, hF⟩ := sg_letE hF
          refine g_iast 71 C (w2 := (ww_X8 Y ad σ15)) 1 dX8_rains_70 rfl rfl h14 (by rw [eσ15]; rfl) ?_
          refine g_iinc 74 C 5 (z4 + 1) [(4, .int (z4 + 1)), (3, .int y9), (6, .int y8), (5, .int r3), (0, .ref (ad 0)), (2, .int x2)] dX8_rains_71 rfl rfl rfl (by decide) rfl ?_
          refine g_goto 10 C dX8_rains_74 (by decide) ?_
          refine g_lv (lv2 := [(0, .ref (ad 0)), (2, .int x2), (3, .int y9), (4, .int (z4 + 1))]) [4, 5, 1, 0] rfl ?_
          exact ih y9 (z4 + 1) σ15 hF
  rw [f_X8_rains] at hF
  refine g_iconst 1 C 0 dX8_rains_0 rfl (by decide) ?_
  refine g_istore_n 2 C [(3, .int 0), (0, .ref (ad 0)), (1, .int x1), (2, .int x2)] dX8_rains_1 rfl rfl (by decide) rfl ?_
  refine g_aload_n 3 C dX8_rains_2 rfl rfl rfl ?_
  refine g_iload_n 4 C dX8_rains_3 rfl rfl rfl ?_
  obtain ⟨τ1, q2, hF⟩ := sg_bndE hF
  refine g_callVv 7 C (w2 := (ww_X8 Y ad τ1)) (As := [.int x1]) (st := []) (n0 := 1) (ci := 9) (q0 := 0) [0, 1, 2, 3, 4, 5, 6, 7, 8, 9, 10, 11, 12] [] [0, 1, 2, 3, 4, 5, 6, 7, 8, 9, 10, 11, 12] (c_X8_finds l hZ (ad := ad) q2) gX8_rains_X8_finds ⟨rfl, by decide +kernel, by decide +kernel, rfl⟩ rfl ⟨Nat.le_of_ble_eq_true rfl, Nat.le_of_ble_eq_true rfl⟩ rfl rfl ⟨rfl, rfl, rfl, by decide, rfl, rfl⟩ rfl rfl (Nat.le_of_ble_eq_true rfl) ⟨Nat.le_refl _, Nat.le_refl _⟩ dX8_rains_4 rfl rfl ?_
  refine g_iconst 8 C 0 dX8_rains_7 rfl (by decide) ?_
  refine g_istore 10 C [(4, .int 0), (3, .int 0), (0, .ref (ad 0)), (1, .int x1), (2, .int x2)] dX8_rains_8 rfl (by decide) rfl ?_
  refine g_lv (lv2 := [(0, .ref (ad 0)), (2, .int x2), (3, .int 0), (4, .int 0)]) [2, 4, 1, 0] rfl ?_
  exact K10  1000 0 0 τ1 hF
def f_X8_letsRain (x1 : Int32) (x2 : Int32) (σ : sg_S) : Option (Int32 × sg_S) := sg_bnd (f_X8_isTown x1) (fun r1 => (if r1 = 0 then sg_bnd2 (f_X8_fail (-1) σ) (fun r13 τ11 => some (r13, τ11)) else sg_bnd (f_X8_isIn x2 1 20) (fun r3 => (if r3 = 0 then sg_bnd2 (f_X8_fail (-2) σ) (fun r7 τ5 => some (r7, τ5)) else sg_bnd2 (f_X8_rains x1 x2 σ) (fun r10 τ8 => some (r10, τ8))))))
set_option maxHeartbeats 4000000 in
set_option maxRecDepth 100000 in
theorem c_X8_letsRain (l : Launch) {D : va_G} {Y : Nat → ClassId} {Z : (Nat → Prop) → State → Heap → Prop} (hZ : sg_Zok Z) {ad : Nat → Nat} {σ : sg_S} {σ' : sg_S} {x1 x2 : Int32} {r : Int32} (hF : f_X8_letsRain x1 x2 σ = some (r, σ')) : sg_MI l yX8_letsRain wsX8_letsRain 2 51 D Y Z [.ref (ad 0), .int x1, .int x2] (ww_X8 Y ad σ) r (ww_X8 Y ad σ') := by
  intro sz
  refine sg_enter (own := RX8) (maxL := 3) (ret := (some .int)) (cc := cX8_letsRain) (by decide +kernel) rfl rfl (Nat.le_of_ble_eq_true rfl) hZ ?_
  intro p e s m args below meth c C hr Q hQ hsz
  refine g_lv (lv2 := [(0, .ref (ad 0)), (1, .int x1), (2, .int x2)]) [0, 1, 2] rfl ?_
  rw [f_X8_letsRain] at hF
  refine g_iload_n 1 C dX8_letsRain_0 rfl rfl rfl ?_
  obtain ⟨r1, q2, hF⟩ := sg_bndE hF
  refine g_callSi 4 C (w2 := (ww_X8 Y ad σ)) (As := [.int x1]) (st := []) (n0 := 1) [] [0, 1, 2, 3, 4, 5, 6, 7, 8, 9, 10, 11, 12] [0, 1, 2, 3, 4, 5, 6, 7, 8, 9, 10, 11, 12] (c_X8_isTown l hZ (ad := ad) (σ := σ) q2) gX8_letsRain_X8_isTown ⟨by decide +kernel, by decide +kernel, rfl⟩ rfl ⟨Nat.le_of_ble_eq_true rfl, Nat.le_of_ble_eq_true rfl⟩ ⟨rfl, rfl, rfl, by decide, rfl, rfl⟩ rfl rfl (Nat.le_of_ble_eq_true rfl) ⟨Nat.le_refl _, Nat.le_refl _⟩ dX8_letsRain_1 rfl rfl ?_
  refine g_if_ne 7 15 C dX8_letsRain_4 (by decide) rfl hF (fun hF => ?_) (fun hF => ?_)
  · refine g_iload_n 16 C dX8_letsRain_15 rfl rfl rfl ?_
    refine g_iconst 17 C 1 dX8_letsRain_16 rfl (by decide) ?_
    refine g_bipush 19 C 20 dX8_letsRain_17 rfl (by decide) ?_
    obtain ⟨r3, q4, hF⟩ := sg_bndE hF
    refine g_callSi 22 C (w2 := (ww_X8 Y ad σ)) (As := [.int x2, .int 1, .int 20]) (st := []) (n0 := 3) [] [0, 1, 2, 3, 4, 5, 6, 7, 8, 9, 10, 11, 12] [0, 1, 2, 3, 4, 5, 6, 7, 8, 9, 10, 11, 12] (c_X8_isIn l hZ (ad := ad) (σ := σ) q4) gX8_letsRain_X8_isIn ⟨by decide +kernel, by decide +kernel, rfl⟩ rfl ⟨Nat.le_of_ble_eq_true rfl, Nat.le_of_ble_eq_true rfl⟩ ⟨rfl, rfl, rfl, by decide, rfl, rfl⟩ rfl rfl (Nat.le_of_ble_eq_true rfl) ⟨Nat.le_refl _, Nat.le_refl _⟩ dX8_letsRain_19 rfl rfl ?_
    refine g_if_eq 25 34 C dX8_letsRain_22 (by decide) rfl hF (fun hF => ?_) (fun hF => ?_)
    · refine g_aload_n 35 C dX8_letsRain_34 rfl rfl rfl ?_
      refine g_bipush 37 C (-2) dX8_letsRain_35 rfl (by decide) ?_
      obtain ⟨r7, τ5, q6, hF⟩ := sg_bnd2E hF
      refine g_callVi 40 C (w2 := (ww_X8 Y ad τ5)) (As := [.int (-2)]) (st := []) (n0 := 1) (ci := 9) (q0 := 0) [0, 1, 2, 3, 4, 5, 6, 7, 8, 9, 10, 11, 12] [] [0, 1, 2, 3, 4, 5, 6, 7, 8, 9, 10, 11, 12] (c_X8_fail l hZ (ad := ad) q6) gX8_letsRain_X8_fail ⟨rfl, by decide +kernel, by decide +kernel, rfl⟩ rfl ⟨Nat.le_of_ble_eq_true rfl, Nat.le_of_ble_eq_true rfl⟩ rfl rfl ⟨rfl, rfl, rfl, by decide, rfl, rfl⟩ rfl rfl (Nat.le_of_ble_eq_true rfl) ⟨Nat.le_refl _, Nat.le_refl _⟩ dX8_letsRain_37 rfl rfl ?_
      obtain ⟨e1, e2⟩ := sg_pairE hF
      exact g_iret C hr rfl hQ hsz dX8_letsRain_40 e1.symm (by rw [e2])
    · refine g_aload_n 26 C dX8_letsRain_25 rfl rfl rfl ?_
      refine g_iload_n 27 C dX8_letsRain_26 rfl rfl rfl ?_
      refine g_iload_n 28 C dX8_letsRain_27 rfl rfl rfl ?_
      obtain ⟨r10, τ8, q9, hF⟩ := sg_bnd2E hF
      refine g_callVi 31 C (w2 := (ww_X8 Y ad τ8)) (As := [.int x1, .int x2]) (st := []) (n0 := 2) (ci := 9) (q0 := 0) [0, 1, 2, 3, 4, 5, 6, 7, 8, 9, 10, 11, 12] [] [0, 1, 2, 3, 4, 5, 6, 7, 8, 9, 10, 11, 12] (c_X8_rains l hZ (ad := ad) q9) gX8_letsRain_X8_rains ⟨rfl, by decide +kernel, by decide +kernel, rfl⟩ rfl ⟨Nat.le_of_ble_eq_true rfl, Nat.le_of_ble_eq_true rfl⟩ rfl rfl ⟨rfl, rfl, rfl, by decide, rfl, rfl⟩ rfl rfl (Nat.le_of_ble_eq_true rfl) ⟨Nat.le_refl _, Nat.le_refl _⟩ dX8_letsRain_28 rfl rfl ?_
      refine g_goto 40 C dX8_letsRain_31 (by decide) ?_
      obtain ⟨e1, e2⟩ := sg_pairE hF
      exact g_iret C hr rfl hQ hsz dX8_letsRain_40 e1.symm (by rw [e2])
  · refine g_aload_n 8 C dX8_letsRain_7 rfl rfl rfl ?_
    refine g_iconst 9 C (-1) dX8_letsRain_8 rfl (by decide) ?_
    obtain ⟨r13, τ11, q12, hF⟩ := sg_bnd2E hF
    refine g_callVi 12 C (w2 := (ww_X8 Y ad τ11)) (As := [.int (-1)]) (st := []) (n0 := 1) (ci := 9) (q0 := 0) [0, 1, 2, 3, 4, 5, 6, 7, 8, 9, 10, 11, 12] [] [0, 1, 2, 3, 4, 5, 6, 7, 8, 9, 10, 11, 12] (c_X8_fail l hZ (ad := ad) q12) gX8_letsRain_X8_fail ⟨rfl, by decide +kernel, by decide +kernel, rfl⟩ rfl ⟨Nat.le_of_ble_eq_true rfl, Nat.le_of_ble_eq_true rfl⟩ rfl rfl ⟨rfl, rfl, rfl, by decide, rfl, rfl⟩ rfl rfl (Nat.le_of_ble_eq_true rfl) ⟨Nat.le_refl _, Nat.le_refl _⟩ dX8_letsRain_9 rfl rfl ?_
    refine g_goto 40 C dX8_letsRain_12 (by decide) ?_
    obtain ⟨e1, e2⟩ := sg_pairE hF
    exact g_iret C hr rfl hQ hsz dX8_letsRain_40 e1.symm (by rw [e2])
def f_X8_rain (x1 : Int32) (x2 : Int32) (σ : sg_S) : Option (Int32 × sg_S) := sg_bnd (f_X8_begins  σ) (fun τ1 => sg_bnd2 (f_X8_letsRain x1 x2 τ1) (fun r5 τ3 => sg_bnd2 (f_X8_ends r5 τ3) (fun r8 τ6 => some (r8, τ6))))
set_option maxHeartbeats 4000000 in
set_option maxRecDepth 100000 in
theorem c_X8_rain (l : Launch) {D : va_G} {Y : Nat → ClassId} {Z : (Nat → Prop) → State → Heap → Prop} (hZ : sg_Zok Z) {ad : Nat → Nat} {σ : sg_S} {σ' : sg_S} {x1 x2 : Int32} {r : Int32} (hF : f_X8_rain x1 x2 σ = some (r, σ')) : sg_MI l yX8_rain wsX8_rain 3 73 D Y Z [.ref (ad 0), .int x1, .int x2] (ww_X8 Y ad σ) r (ww_X8 Y ad σ') := by
  intro sz
  refine sg_enter (own := RX8) (maxL := 3) (ret := (some .int)) (cc := cX8_rain) (by decide +kernel) rfl rfl (Nat.le_of_ble_eq_true rfl) hZ ?_
  intro p e s m args below meth c C hr Q hQ hsz
  refine g_lv (lv2 := [(0, .ref (ad 0)), (1, .int x1), (2, .int x2)]) [0, 1, 2] rfl ?_
  rw [f_X8_rain] at hF
  refine g_aload_n 1 C dX8_rain_0 rfl rfl rfl ?_
  obtain ⟨τ1, q2, hF⟩ := sg_bndE hF
  refine g_callVv 4 C (w2 := (ww_X8 Y ad τ1)) (As := []) (st := []) (n0 := 0) (ci := 9) (q0 := 0) [0, 1, 2, 3, 4, 5, 6, 7, 8, 9, 10, 11, 12] [] [0, 1, 2, 3, 4, 5, 6, 7, 8, 9, 10, 11, 12] (c_X8_begins l hZ (ad := ad) q2) gX8_rain_X8_begins ⟨rfl, by decide +kernel, by decide +kernel, rfl⟩ rfl ⟨Nat.le_of_ble_eq_true rfl, Nat.le_of_ble_eq_true rfl⟩ rfl rfl ⟨rfl, rfl, rfl, by decide, rfl, rfl⟩ rfl rfl (Nat.le_of_ble_eq_true rfl) ⟨Nat.le_refl _, Nat.le_refl _⟩ dX8_rain_1 rfl rfl ?_
  refine g_aload_n 5 C dX8_rain_4 rfl rfl rfl ?_
  refine g_aload_n 6 C dX8_rain_5 rfl rfl rfl ?_
  refine g_iload_n 7 C dX8_rain_6 rfl rfl rfl ?_
  refine g_iload_n 8 C dX8_rain_7 rfl rfl rfl ?_
  obtain ⟨r5, τ3, q4, hF⟩ := sg_bnd2E hF
  refine g_callVi 11 C (w2 := (ww_X8 Y ad τ3)) (As := [.int x1, .int x2]) (st := [.ref (ad 0)]) (n0 := 2) (ci := 9) (q0 := 0) [0, 1, 2, 3, 4, 5, 6, 7, 8, 9, 10, 11, 12] [] [0, 1, 2, 3, 4, 5, 6, 7, 8, 9, 10, 11, 12] (c_X8_letsRain l hZ (ad := ad) q4) gX8_rain_X8_letsRain ⟨rfl, by decide +kernel, by decide +kernel, rfl⟩ rfl ⟨Nat.le_of_ble_eq_true rfl, Nat.le_of_ble_eq_true rfl⟩ rfl rfl ⟨rfl, rfl, rfl, by decide, rfl, rfl⟩ rfl rfl (Nat.le_of_ble_eq_true rfl) ⟨Nat.le_refl _, Nat.le_refl _⟩ dX8_rain_8 rfl rfl ?_
  obtain ⟨r8, τ6, q7, hF⟩ := sg_bnd2E hF
  refine g_callVi 14 C (w2 := (ww_X8 Y ad τ6)) (As := [.int r5]) (st := []) (n0 := 1) (ci := 9) (q0 := 0) [0, 1, 2, 3, 4, 5, 6, 7, 8, 9, 10, 11, 12] [] [0, 1, 2, 3, 4, 5, 6, 7, 8, 9, 10, 11, 12] (c_X8_ends l hZ (ad := ad) q7) gX8_rain_X8_ends ⟨rfl, by decide +kernel, by decide +kernel, rfl⟩ rfl ⟨Nat.le_of_ble_eq_true rfl, Nat.le_of_ble_eq_true rfl⟩ rfl rfl ⟨rfl, rfl, rfl, by decide, rfl, rfl⟩ rfl rfl (Nat.le_of_ble_eq_true rfl) ⟨Nat.le_refl _, Nat.le_refl _⟩ dX8_rain_11 rfl rfl ?_
  obtain ⟨e1, e2⟩ := sg_pairE hF
  exact g_iret C hr rfl hQ hsz dX8_rain_14 e1.symm (by rw [e2])
