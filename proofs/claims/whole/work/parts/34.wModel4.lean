theorem kiX8_writes_X8 : ∀ w ∈ u_ws RX8 TX8 27, w ∈ wsX8_writes := by decide +kernel
theorem kfX8_writes_38 : Cond.fieldLink RX8 38 "WeatherMinistryModel" "line" "[I" ∈ wsX8_writes := by decide +kernel
theorem kfX8_writes_175 : Cond.fieldLink RX8 175 "WeatherMinistryModel" "lineN" "I" ∈ wsX8_writes := by decide +kernel
def f_X8_writes (x1 : Int32) (σ : sg_S) : Option sg_S := sg_grd (sg_in (σ 0 24) 140) (sg_let (sg_up σ 9 ((σ 0 24).toNatClampNeg) x1) (fun σ2 => sg_let (sg_up σ2 0 24 ((σ2 0 24) + 1)) (fun σ3 => some σ3)))
set_option maxHeartbeats 4000000 in
set_option maxRecDepth 100000 in
theorem c_X8_writes (l : Launch) {D : va_G} {Y : Nat → ClassId} {Z : (Nat → Prop) → State → Heap → Prop} (hZ : sg_Zok Z) {ad : Nat → Nat} {σ : sg_S} {σ' : sg_S} {x1 : Int32} (hF : f_X8_writes x1 σ = some σ') : sg_MV l yX8_writes wsX8_writes 0 0 D Y Z [.ref (ad 0), .int x1] (ww_X8 Y ad σ) (ww_X8 Y ad σ') := by
  intro sz
  refine sg_enter (own := RX8) (maxL := 2) (ret := none) (cc := cX8_writes) (by decide +kernel) rfl rfl (Nat.le_of_ble_eq_true rfl) hZ ?_
  intro p e s m args below meth c C hr Q hQ hsz
  refine g_lv (lv2 := [(0, .ref (ad 0)), (1, .int x1)]) [0, 1] rfl ?_
  rw [f_X8_writes] at hF
  refine g_aload_n 1 C dX8_writes_0 rfl rfl rfl ?_
  refine g_get 4 C (own := RX8) (C1 := RX8) (T := TX8) 0 17 (.ref (ad 9)) kiX8_writes_X8 kfX8_writes_38 rfl dX8_writes_1 rfl rfl rfl (by decide) rfl ?_
  refine g_aload_n 5 C dX8_writes_4 rfl rfl rfl ?_
  refine g_get 8 C (own := RX8) (C1 := RX8) (T := TX8) 0 24 (.int (σ 0 24)) kiX8_writes_X8 kfX8_writes_175 rfl dX8_writes_5 rfl rfl rfl (by decide) rfl ?_
  refine g_iload_n 9 C dX8_writes_8 rfl rfl rfl ?_
  obtain ⟨h1, hF⟩ := sg_grdE hF
  obtain ⟨σ2, eσ2, hF⟩ := sg_letE hF
  refine g_iast 10 C (w2 := (ww_X8 Y ad σ2)) 9 dX8_writes_9 rfl rfl h1 (by rw [eσ2]; rfl) ?_
  refine g_aload_n 11 C dX8_writes_10 rfl rfl rfl ?_
  refine g_dup 12 C dX8_writes_11 rfl rfl ?_
  refine g_get 15 C (own := RX8) (C1 := RX8) (T := TX8) 0 24 (.int (σ2 0 24)) kiX8_writes_X8 kfX8_writes_175 rfl dX8_writes_12 rfl rfl rfl (by decide) rfl ?_
  refine g_iconst 16 C 1 dX8_writes_15 rfl (by decide) ?_
  refine g_iadd 17 C dX8_writes_16 rfl ?_
  obtain ⟨σ3, eσ3, hF⟩ := sg_letE hF
  refine g_put 20 C (own := RX8) (C1 := RX8) (T := TX8) (w2 := (ww_X8 Y ad σ3)) 0 24 tyX8 tyX8_ok nmX8 kiX8_writes_X8 kfX8_writes_175 rfl rfl (ty := .int) (by decide) rfl rfl (sg_blt rfl) dX8_writes_17 rfl rfl rfl (by decide) (by rw [eσ3]; rfl) ?_
  have e2 := sg_someE hF
  exact g_vret C hr hQ hsz dX8_writes_20 (by rw [e2])
def f_X8_writesNumber_L18 (x1 : Int32) : Nat → Int32 → sg_S → Option sg_S
  | 0, _, _ => none
  | nz + 1, z2, σz => (if 0 < z2 then sg_grd (!decide (z2 = 0)) (sg_bnd (f_X8_writes (48 + ((x1 / z2) - (x1 / z2) / 10 * 10)) σz) (fun τ1 => sg_let (z2 / 10) (fun y3 => f_X8_writesNumber_L18 x1 nz y3 τ1))) else some σz)
def f_X8_writesNumber_L2 (x1 : Int32) : Nat → Int32 → sg_S → Option sg_S
  | 0, _, _ => none
  | nz + 1, z2, σz => sg_grd (!decide (z2 = 0)) ((if 10 ≤ x1 / z2 then sg_let (z2 * 10) (fun y4 => f_X8_writesNumber_L2 x1 nz y4 σz) else f_X8_writesNumber_L18 x1 1000 z2 σz))
def f_X8_writesNumber (x1 : Int32) (σ : sg_S) : Option sg_S := f_X8_writesNumber_L2 x1 1000 1 σ
set_option maxHeartbeats 4000000 in
set_option maxRecDepth 100000 in
theorem c_X8_writesNumber (l : Launch) {D : va_G} {Y : Nat → ClassId} {Z : (Nat → Prop) → State → Heap → Prop} (hZ : sg_Zok Z) {ad : Nat → Nat} {σ : sg_S} {σ' : sg_S} {x1 : Int32} (hF : f_X8_writesNumber x1 σ = some σ') : sg_MV l yX8_writesNumber wsX8_writesNumber 1 21 D Y Z [.ref (ad 0), .int x1] (ww_X8 Y ad σ) (ww_X8 Y ad σ') := by
  intro sz
  refine sg_enter (own := RX8) (maxL := 3) (ret := none) (cc := cX8_writesNumber) (by decide +kernel) rfl rfl (Nat.le_of_ble_eq_true rfl) hZ ?_
  intro p e s m args below meth c C hr Q hQ hsz
  refine g_lv (lv2 := [(0, .ref (ad 0)), (1, .int x1)]) [0, 1] rfl ?_
  have K18 : ∀ (nz : Nat), ∀ (z2 : Int32) (σz : sg_S), f_X8_writesNumber_L18 x1 nz z2 σz = some σ' → sg_G p l e ({ frames := 1, cells := 0, slots := 0, locals := 21 } : Room) s m args below meth c D (va_A (ww_X8 Y ad σ) s.heap.size) 3 0 0 Q 18 [(0, .ref (ad 0)), (1, .int x1), (2, .int z2)] [] (ww_X8 Y ad σz) := by
    intro nz
    induction nz with
    | zero =>
      intro z2 σz hF
      rw [f_X8_writesNumber_L18.eq_1] at hF
      exact nomatch hF
    | succ nz ih =>
      intro z2 σz hF
      rw [f_X8_writesNumber_L18.eq_2] at hF
      refine g_iload_n 19 C dX8_writesNumber_18 rfl rfl rfl ?_
      refine g_if_le 22 43 C dX8_writesNumber_19 (by decide) rfl hF (fun hF => ?_) (fun hF => ?_)
      · have e2 := sg_someE hF
        exact g_vret C hr hQ hsz dX8_writesNumber_43 (by rw [e2])
      · refine g_aload_n 23 C dX8_writesNumber_22 rfl rfl rfl ?_
        refine g_bipush 25 C 48 dX8_writesNumber_23 rfl (by decide) ?_
        refine g_iload_n 26 C dX8_writesNumber_25 rfl rfl rfl ?_
        refine g_iload_n 27 C dX8_writesNumber_26 rfl rfl rfl ?_
        refine g_idiv 28 C dX8_writesNumber_27 rfl hF (fun hF => ?_)
        refine g_bipush 30 C 10 dX8_writesNumber_28 rfl (by decide) ?_
        refine g_iremc 31 C dX8_writesNumber_30 rfl (by decide) ?_
        refine g_iadd 32 C dX8_writesNumber_31 rfl ?_
        obtain ⟨τ1, q2, hF⟩ := sg_bndE hF
        refine g_callVv 35 C (w2 := (ww_X8 Y ad τ1)) (As := [.int (48 + ((x1 / z2) - (x1 / z2) / 10 * 10))]) (st := []) (n0 := 1) (ci := 9) (q0 := 0) [0, 1, 2, 3, 4, 5, 6, 7, 8, 9, 10, 11, 12] [] [0, 1, 2, 3, 4, 5, 6, 7, 8, 9, 10, 11, 12] (c_X8_writes l hZ (ad := ad) q2) gX8_writesNumber_X8_writes ⟨rfl, by decide +kernel, by decide +kernel, rfl⟩ rfl ⟨Nat.le_of_ble_eq_true rfl, Nat.le_of_ble_eq_true rfl⟩ rfl rfl ⟨rfl, rfl, rfl, by decide, rfl, rfl⟩ rfl rfl (Nat.le_of_ble_eq_true rfl) ⟨Nat.le_refl _, Nat.le_refl _⟩ dX8_writesNumber_32 rfl rfl ?_
        refine g_iload_n 36 C dX8_writesNumber_35 rfl rfl rfl ?_
        refine g_bipush 38 C 10 dX8_writesNumber_36 rfl (by decide) ?_
        refine g_idivc 39 C dX8_writesNumber_38 rfl (by decide) ?_
        obtain ⟨y3, ey3, hF⟩ := sg_letE hF
        refine g_top ey3 ?_
        refine g_istore_n 40 C [(2, .int y3), (0, .ref (ad 0)), (1, .int x1)] dX8_writesNumber_39 rfl rfl (by decide) rfl ?_
        refine g_goto 18 C dX8_writesNumber_40 (by decide) ?_
        refine g_lv (lv2 := [(0, .ref (ad 0)), (1, .int x1), (2, .int y3)]) [1, 2, 0] rfl ?_
        exact ih y3 τ1 hF
  have K2 : ∀ (nz : Nat), ∀ (z2 : Int32) (σz : sg_S), f_X8_writesNumber_L2 x1 nz z2 σz = some σ' → sg_G p l e ({ frames := 1, cells := 0, slots := 0, locals := 21 } : Room) s m args below meth c D (va_A (ww_X8 Y ad σ) s.heap.size) 3 0 0 Q 2 [(0, .ref (ad 0)), (1, .int x1), (2, .int z2)] [] (ww_X8 Y ad σz) := by
    intro nz
    induction nz with
    | zero =>
      intro z2 σz hF
      rw [f_X8_writesNumber_L2.eq_1] at hF
      exact nomatch hF
    | succ nz ih =>
      intro z2 σz hF
      rw [f_X8_writesNumber_L2.eq_2] at hF
      refine g_iload_n 3 C dX8_writesNumber_2 rfl rfl rfl ?_
      refine g_iload_n 4 C dX8_writesNumber_3 rfl rfl rfl ?_
      refine g_idiv 5 C dX8_writesNumber_4 rfl hF (fun hF => ?_)
      refine g_bipush 7 C 10 dX8_writesNumber_5 rfl (by decide) ?_
      refine g_icmp_lt 10 18 C dX8_writesNumber_7 (by decide) rfl hF (fun hF => ?_) (fun hF => ?_)
      · refine g_lv (lv2 := [(0, .ref (ad 0)), (1, .int x1), (2, .int z2)]) [0, 1, 2] rfl ?_
        exact K18  1000 z2 σz hF
      · refine g_iload_n 11 C dX8_writesNumber_10 rfl rfl rfl ?_
        refine g_bipush 13 C 10 dX8_writesNumber_11 rfl (by decide) ?_
        refine g_imul 14 C dX8_writesNumber_13 rfl ?_
        obtain ⟨y4, ey4, hF⟩ := sg_letE hF
        refine g_top ey4 ?_
        refine g_istore_n 15 C [(2, .int y4), (0, .ref (ad 0)), (1, .int x1)] dX8_writesNumber_14 rfl rfl (by decide) rfl ?_
        refine g_goto 2 C dX8_writesNumber_15 (by decide) ?_
        refine g_lv (lv2 := [(0, .ref (ad 0)), (1, .int x1), (2, .int y4)]) [1, 2, 0] rfl ?_
        exact ih y4 σz hF
  rw [f_X8_writesNumber] at hF
  refine g_iconst 1 C 1 dX8_writesNumber_0 rfl (by decide) ?_
  refine g_istore_n 2 C [(2, .int 1), (0, .ref (ad 0)), (1, .int x1)] dX8_writesNumber_1 rfl rfl (by decide) rfl ?_
  refine g_lv (lv2 := [(0, .ref (ad 0)), (1, .int x1), (2, .int 1)]) [1, 2, 0] rfl ?_
  exact K2  1000 1 σ hF
theorem kiX8_write_X8 : ∀ w ∈ u_ws RX8 TX8 27, w ∈ wsX8_write := by decide +kernel
theorem kfX8_write_175 : Cond.fieldLink RX8 175 "WeatherMinistryModel" "lineN" "I" ∈ wsX8_write := by decide +kernel
theorem kfX8_write_13 : Cond.fieldLink RX8 13 "WeatherMinistryModel" "v" "[I" ∈ wsX8_write := by decide +kernel
def f_X8_write (x1 : Int32) (σ : sg_S) : Option (Int32 × sg_S) := sg_bnd (f_X8_isTown x1) (fun r1 => (if r1 = 0 then some ((-1), σ) else sg_let (sg_up σ 0 24 0) (fun σ3 => sg_bnd (f_X8_writesNumber x1 σ3) (fun τ4 => sg_bnd (f_X8_writes 58 τ4) (fun τ6 => sg_bnd (f_X8_at x1 0) (fun r8 => sg_grd (sg_in r8 79) (sg_bnd (f_X8_writesNumber (τ6 1 r8.toNatClampNeg) τ6) (fun τ11 => sg_bnd (f_X8_writes 115 τ11) (fun τ13 => sg_bnd (f_X8_at x1 1) (fun r15 => sg_grd (sg_in r15 79) (sg_bnd (f_X8_writesNumber (τ13 1 r15.toNatClampNeg) τ13) (fun τ18 => sg_bnd (f_X8_writes 114 τ18) (fun τ20 => sg_bnd (f_X8_at x1 2) (fun r22 => sg_grd (sg_in r22 79) (sg_bnd (f_X8_writesNumber (τ20 1 r22.toNatClampNeg) τ20) (fun τ25 => sg_bnd (f_X8_writes 117 τ25) (fun τ27 => sg_bnd (f_X8_at x1 3) (fun r29 => sg_grd (sg_in r29 79) ((if τ27 1 r29.toNatClampNeg = 0 then some (τ27 0 24, τ27) else sg_bnd (f_X8_at x1 3) (fun r32 => sg_grd (sg_in r32 79) (sg_bnd (f_X8_writesNumber (τ27 1 r32.toNatClampNeg) τ27) (fun τ35 => sg_bnd (f_X8_writes 97 τ35) (fun τ37 => some (τ37 0 24, τ37)))))))))))))))))))))))))
set_option maxHeartbeats 4000000 in
set_option maxRecDepth 100000 in
theorem c_X8_write (l : Launch) {D : va_G} {Y : Nat → ClassId} {Z : (Nat → Prop) → State → Heap → Prop} (hZ : sg_Zok Z) {ad : Nat → Nat} {σ : sg_S} {σ' : sg_S} {x1 : Int32} {r : Int32} (hF : f_X8_write x1 σ = some (r, σ')) : sg_MI l yX8_write wsX8_write 2 43 D Y Z [.ref (ad 0), .int x1] (ww_X8 Y ad σ) r (ww_X8 Y ad σ') := by
  intro sz
  refine sg_enter (own := RX8) (maxL := 2) (ret := (some .int)) (cc := cX8_write) (by decide +kernel) rfl rfl (Nat.le_of_ble_eq_true rfl) hZ ?_
  intro p e s m args below meth c C hr Q hQ hsz
  refine g_lv (lv2 := [(0, .ref (ad 0)), (1, .int x1)]) [0, 1] rfl ?_
  rw [f_X8_write] at hF
  refine g_iload_n 1 C dX8_write_0 rfl rfl rfl ?_
  obtain ⟨r1, q2, hF⟩ := sg_bndE hF
  refine g_callSi 4 C (w2 := (ww_X8 Y ad σ)) (As := [.int x1]) (st := []) (n0 := 1) [] [0, 1, 2, 3, 4, 5, 6, 7, 8, 9, 10, 11, 12] [0, 1, 2, 3, 4, 5, 6, 7, 8, 9, 10, 11, 12] (c_X8_isTown l hZ (ad := ad) (σ := σ) q2) gX8_write_X8_isTown ⟨by decide +kernel, by decide +kernel, rfl⟩ rfl ⟨Nat.le_of_ble_eq_true rfl, Nat.le_of_ble_eq_true rfl⟩ ⟨rfl, rfl, rfl, by decide, rfl, rfl⟩ rfl rfl (Nat.le_of_ble_eq_true rfl) ⟨Nat.le_refl _, Nat.le_refl _⟩ dX8_write_1 rfl rfl ?_
  refine g_if_ne 7 9 C dX8_write_4 (by decide) rfl hF (fun hF => ?_) (fun hF => ?_)
  · refine g_aload_n 10 C dX8_write_9 rfl rfl rfl ?_
    refine g_iconst 11 C 0 dX8_write_10 rfl (by decide) ?_
    obtain ⟨σ3, eσ3, hF⟩ := sg_letE hF
    refine g_put 14 C (own := RX8) (C1 := RX8) (T := TX8) (w2 := (ww_X8 Y ad σ3)) 0 24 tyX8 tyX8_ok nmX8 kiX8_write_X8 kfX8_write_175 rfl rfl (ty := .int) (by decide) rfl rfl (sg_blt rfl) dX8_write_11 rfl rfl rfl (by decide) (by rw [eσ3]; rfl) ?_
    refine g_aload_n 15 C dX8_write_14 rfl rfl rfl ?_
    refine g_iload_n 16 C dX8_write_15 rfl rfl rfl ?_
    obtain ⟨τ4, q5, hF⟩ := sg_bndE hF
    refine g_callVv 19 C (w2 := (ww_X8 Y ad τ4)) (As := [.int x1]) (st := []) (n0 := 1) (ci := 9) (q0 := 0) [0, 1, 2, 3, 4, 5, 6, 7, 8, 9, 10, 11, 12] [] [0, 1, 2, 3, 4, 5, 6, 7, 8, 9, 10, 11, 12] (c_X8_writesNumber l hZ (ad := ad) q5) gX8_write_X8_writesNumber ⟨rfl, by decide +kernel, by decide +kernel, rfl⟩ rfl ⟨Nat.le_of_ble_eq_true rfl, Nat.le_of_ble_eq_true rfl⟩ rfl rfl ⟨rfl, rfl, rfl, by decide, rfl, rfl⟩ rfl rfl (Nat.le_of_ble_eq_true rfl) ⟨Nat.le_refl _, Nat.le_refl _⟩ dX8_write_16 rfl rfl ?_
    refine g_aload_n 20 C dX8_write_19 rfl rfl rfl ?_
    refine g_bipush 22 C 58 dX8_write_20 rfl (by decide) ?_
    obtain ⟨τ6, q7, hF⟩ := sg_bndE hF
    refine g_callVv 25 C (w2 := (ww_X8 Y ad τ6)) (As := [.int 58]) (st := []) (n0 := 1) (ci := 9) (q0 := 0) [0, 1, 2, 3, 4, 5, 6, 7, 8, 9, 10, 11, 12] [] [0, 1, 2, 3, 4, 5, 6, 7, 8, 9, 10, 11, 12] (c_X8_writes l hZ (ad := ad) q7) gX8_write_X8_writes ⟨rfl, by decide +kernel, by decide +kernel, rfl⟩ rfl ⟨Nat.le_of_ble_eq_true rfl, Nat.le_of_ble_eq_true rfl⟩ rfl rfl ⟨rfl, rfl, rfl, by decide, rfl, rfl⟩ rfl rfl (Nat.le_of_ble_eq_true rfl) ⟨Nat.le_refl _, Nat.le_refl _⟩ dX8_write_22 rfl rfl ?_
    refine g_aload_n 26 C dX8_write_25 rfl rfl rfl ?_
    refine g_aload_n 27 C dX8_write_26 rfl rfl rfl ?_
    refine g_get 30 C (own := RX8) (C1 := RX8) (T := TX8) 0 8 (.ref (ad 1)) kiX8_write_X8 kfX8_write_13 rfl dX8_write_27 rfl rfl rfl (by decide) rfl ?_
    refine g_iload_n 31 C dX8_write_30 rfl rfl rfl ?_
    refine g_iconst 32 C 0 dX8_write_31 rfl (by decide) ?_
    obtain ⟨r8, q9, hF⟩ := sg_bndE hF
    refine g_callSi 35 C (w2 := (ww_X8 Y ad τ6)) (As := [.int x1, .int 0]) (st := [.ref (ad 1), .ref (ad 0)]) (n0 := 2) [] [0, 1, 2, 3, 4, 5, 6, 7, 8, 9, 10, 11, 12] [0, 1, 2, 3, 4, 5, 6, 7, 8, 9, 10, 11, 12] (c_X8_at l hZ (ad := ad) (σ := τ6) q9) gX8_write_X8_at ⟨by decide +kernel, by decide +kernel, rfl⟩ rfl ⟨Nat.le_of_ble_eq_true rfl, Nat.le_of_ble_eq_true rfl⟩ ⟨rfl, rfl, rfl, by decide, rfl, rfl⟩ rfl rfl (Nat.le_of_ble_eq_true rfl) ⟨Nat.le_refl _, Nat.le_refl _⟩ dX8_write_32 rfl rfl ?_
    obtain ⟨h10, hF⟩ := sg_grdE hF
    refine g_ialdc 36 C 1 (r8.toNatClampNeg) (τ6 1 r8.toNatClampNeg) dX8_write_35 rfl rfl rfl h10 rfl ?_
    obtain ⟨τ11, q12, hF⟩ := sg_bndE hF
    refine g_callVv 39 C (w2 := (ww_X8 Y ad τ11)) (As := [.int (τ6 1 r8.toNatClampNeg)]) (st := []) (n0 := 1) (ci := 9) (q0 := 0) [0, 1, 2, 3, 4, 5, 6, 7, 8, 9, 10, 11, 12] [] [0, 1, 2, 3, 4, 5, 6, 7, 8, 9, 10, 11, 12] (c_X8_writesNumber l hZ (ad := ad) q12) gX8_write_X8_writesNumber ⟨rfl, by decide +kernel, by decide +kernel, rfl⟩ rfl ⟨Nat.le_of_ble_eq_true rfl, Nat.le_of_ble_eq_true rfl⟩ rfl rfl ⟨rfl, rfl, rfl, by decide, rfl, rfl⟩ rfl rfl (Nat.le_of_ble_eq_true rfl) ⟨Nat.le_refl _, Nat.le_refl _⟩ dX8_write_36 rfl rfl ?_
    refine g_aload_n 40 C dX8_write_39 rfl rfl rfl ?_
    refine g_bipush 42 C 115 dX8_write_40 rfl (by decide) ?_
    obtain ⟨τ13, q14, hF⟩ := sg_bndE hF
    refine g_callVv 45 C (w2 := (ww_X8 Y ad τ13)) (As := [.int 115]) (st := []) (n0 := 1) (ci := 9) (q0 := 0) [0, 1, 2, 3, 4, 5, 6, 7, 8, 9, 10, 11, 12] [] [0, 1, 2, 3, 4, 5, 6, 7, 8, 9, 10, 11, 12] (c_X8_writes l hZ (ad := ad) q14) gX8_write_X8_writes ⟨rfl, by decide +kernel, by decide +kernel, rfl⟩ rfl ⟨Nat.le_of_ble_eq_true rfl, Nat.le_of_ble_eq_true rfl⟩ rfl rfl ⟨rfl, rfl, rfl, by decide, rfl, rfl⟩ rfl rfl (Nat.le_of_ble_eq_true rfl) ⟨Nat.le_refl _, Nat.le_refl _⟩ dX8_write_42 rfl rfl ?_
    refine g_aload_n 46 C dX8_write_45 rfl rfl rfl ?_
    refine g_aload_n 47 C dX8_write_46 rfl rfl rfl ?_
    refine g_get 50 C (own := RX8) (C1 := RX8) (T := TX8) 0 8 (.ref (ad 1)) kiX8_write_X8 kfX8_write_13 rfl dX8_write_47 rfl rfl rfl (by decide) rfl ?_
    refine g_iload_n 51 C dX8_write_50 rfl rfl rfl ?_
    refine g_iconst 52 C 1 dX8_write_51 rfl (by decide) ?_
    obtain ⟨r15, q16, hF⟩ := sg_bndE hF
    refine g_callSi 55 C (w2 := (ww_X8 Y ad τ13)) (As := [.int x1, .int 1]) (st := [.ref (ad 1), .ref (ad 0)]) (n0 := 2) [] [0, 1, 2, 3, 4, 5, 6, 7, 8, 9, 10, 11, 12] [0, 1, 2, 3, 4, 5, 6, 7, 8, 9, 10, 11, 12] (c_X8_at l hZ (ad := ad) (σ := τ13) q16) gX8_write_X8_at ⟨by decide +kernel, by decide +kernel, rfl⟩ rfl ⟨Nat.le_of_ble_eq_true rfl, Nat.le_of_ble_eq_true rfl⟩ ⟨rfl, rfl, rfl, by decide, rfl, rfl⟩ rfl rfl (Nat.le_of_ble_eq_true rfl) ⟨Nat.le_refl _, Nat.le_refl _⟩ dX8_write_52 rfl rfl ?_
    obtain ⟨h17, hF⟩ := sg_grdE hF
    refine g_ialdc 56 C 1 (r15.toNatClampNeg) (τ13 1 r15.toNatClampNeg) dX8_write_55 rfl rfl rfl h17 rfl ?_
    obtain ⟨τ18, q19, hF⟩ := sg_bndE hF
    refine g_callVv 59 C (w2 := (ww_X8 Y ad τ18)) (As := [.int (τ13 1 r15.toNatClampNeg)]) (st := []) (n0 := 1) (ci := 9) (q0 := 0) [0, 1, 2, 3, 4, 5, 6, 7, 8, 9, 10, 11, 12] [] [0, 1, 2, 3, 4, 5, 6, 7, 8, 9, 10, 11, 12] (c_X8_writesNumber l hZ (ad := ad) q19) gX8_write_X8_writesNumber ⟨rfl, by decide +kernel, by decide +kernel, rfl⟩ rfl ⟨Nat.le_of_ble_eq_true rfl, Nat.le_of_ble_eq_true rfl⟩ rfl rfl ⟨rfl, rfl, rfl, by decide, rfl, rfl⟩ rfl rfl (Nat.le_of_ble_eq_true rfl) ⟨Nat.le_refl _, Nat.le_refl _⟩ dX8_write_56 rfl rfl ?_
    refine g_aload_n 60 C dX8_write_59 rfl rfl rfl ?_
    refine g_bipush 62 C 114 dX8_write_60 rfl (by decide) ?_
    obtain ⟨τ20, q21, hF⟩ := sg_bndE hF
    refine g_callVv 65 C (w2 := (ww_X8 Y ad τ20)) (As := [.int 114]) (st := []) (n0 := 1) (ci := 9) (q0 := 0) [0, 1, 2, 3, 4, 5, 6, 7, 8, 9, 10, 11, 12] [] [0, 1, 2, 3, 4, 5, 6, 7, 8, 9, 10, 11, 12] (c_X8_writes l hZ (ad := ad) q21) gX8_write_X8_writes ⟨rfl, by decide +kernel, by decide +kernel, rfl⟩ rfl ⟨Nat.le_of_ble_eq_true rfl, Nat.le_of_ble_eq_true rfl⟩ rfl rfl ⟨rfl, rfl, rfl, by decide, rfl, rfl⟩ rfl rfl (Nat.le_of_ble_eq_true rfl) ⟨Nat.le_refl _, Nat.le_refl _⟩ dX8_write_62 rfl rfl ?_
    refine g_aload_n 66 C dX8_write_65 rfl rfl rfl ?_
    refine g_aload_n 67 C dX8_write_66 rfl rfl rfl ?_
    refine g_get 70 C (own := RX8) (C1 := RX8) (T := TX8) 0 8 (.ref (ad 1)) kiX8_write_X8 kfX8_write_13 rfl dX8_write_67 rfl rfl rfl (by decide) rfl ?_
    refine g_iload_n 71 C dX8_write_70 rfl rfl rfl ?_
    refine g_iconst 72 C 2 dX8_write_71 rfl (by decide) ?_
    obtain ⟨r22, q23, hF⟩ := sg_bndE hF
    refine g_callSi 75 C (w2 := (ww_X8 Y ad τ20)) (As := [.int x1, .int 2]) (st := [.ref (ad 1), .ref (ad 0)]) (n0 := 2) [] [0, 1, 2, 3, 4, 5, 6, 7, 8, 9, 10, 11, 12] [0, 1, 2, 3, 4, 5, 6, 7, 8, 9, 10, 11, 12] (c_X8_at l hZ (ad := ad) (σ := τ20) q23) gX8_write_X8_at ⟨by decide +kernel, by decide +kernel, rfl⟩ rfl ⟨Nat.le_of_ble_eq_true rfl, Nat.le_of_ble_eq_true rfl⟩ ⟨rfl, rfl, rfl, by decide, rfl, rfl⟩ rfl rfl (Nat.le_of_ble_eq_true rfl) ⟨Nat.le_refl _, Nat.le_refl _⟩ dX8_write_72 rfl rfl ?_
    obtain ⟨h24, hF⟩ := sg_grdE hF
    refine g_ialdc 76 C 1 (r22.toNatClampNeg) (τ20 1 r22.toNatClampNeg) dX8_write_75 rfl rfl rfl h24 rfl ?_
    obtain ⟨τ25, q26, hF⟩ := sg_bndE hF
    refine g_callVv 79 C (w2 := (ww_X8 Y ad τ25)) (As := [.int (τ20 1 r22.toNatClampNeg)]) (st := []) (n0 := 1) (ci := 9) (q0 := 0) [0, 1, 2, 3, 4, 5, 6, 7, 8, 9, 10, 11, 12] [] [0, 1, 2, 3, 4, 5, 6, 7, 8, 9, 10, 11, 12] (c_X8_writesNumber l hZ (ad := ad) q26) gX8_write_X8_writesNumber ⟨rfl, by decide +kernel, by decide +kernel, rfl⟩ rfl ⟨Nat.le_of_ble_eq_true rfl, Nat.le_of_ble_eq_true rfl⟩ rfl rfl ⟨rfl, rfl, rfl, by decide, rfl, rfl⟩ rfl rfl (Nat.le_of_ble_eq_true rfl) ⟨Nat.le_refl _, Nat.le_refl _⟩ dX8_write_76 rfl rfl ?_
    refine g_aload_n 80 C dX8_write_79 rfl rfl rfl ?_
    refine g_bipush 82 C 117 dX8_write_80 rfl (by decide) ?_
    obtain ⟨τ27, q28, hF⟩ := sg_bndE hF
    refine g_callVv 85 C (w2 := (ww_X8 Y ad τ27)) (As := [.int 117]) (st := []) (n0 := 1) (ci := 9) (q0 := 0) [0, 1, 2, 3, 4, 5, 6, 7, 8, 9, 10, 11, 12] [] [0, 1, 2, 3, 4, 5, 6, 7, 8, 9, 10, 11, 12] (c_X8_writes l hZ (ad := ad) q28) gX8_write_X8_writes ⟨rfl, by decide +kernel, by decide +kernel, rfl⟩ rfl ⟨Nat.le_of_ble_eq_true rfl, Nat.le_of_ble_eq_true rfl⟩ rfl rfl ⟨rfl, rfl, rfl, by decide, rfl, rfl⟩ rfl rfl (Nat.le_of_ble_eq_true rfl) ⟨Nat.le_refl _, Nat.le_refl _⟩ dX8_write_82 rfl rfl ?_
    refine g_aload_n 86 C dX8_write_85 rfl rfl rfl ?_
    refine g_get 89 C (own := RX8) (C1 := RX8) (T := TX8) 0 8 (.ref (ad 1)) kiX8_write_X8 kfX8_write_13 rfl dX8_write_86 rfl rfl rfl (by decide) rfl ?_
    refine g_iload_n 90 C dX8_write_89 rfl rfl rfl ?_
    refine g_iconst 91 C 3 dX8_write_90 rfl (by decide) ?_
    obtain ⟨r29, q30, hF⟩ := sg_bndE hF
    refine g_callSi 94 C (w2 := (ww_X8 Y ad τ27)) (As := [.int x1, .int 3]) (st := [.ref (ad 1)]) (n0 := 2) [] [0, 1, 2, 3, 4, 5, 6, 7, 8, 9, 10, 11, 12] [0, 1, 2, 3, 4, 5, 6, 7, 8, 9, 10, 11, 12] (c_X8_at l hZ (ad := ad) (σ := τ27) q30) gX8_write_X8_at ⟨by decide +kernel, by decide +kernel, rfl⟩ rfl ⟨Nat.le_of_ble_eq_true rfl, Nat.le_of_ble_eq_true rfl⟩ ⟨rfl, rfl, rfl, by decide, rfl, rfl⟩ rfl rfl (Nat.le_of_ble_eq_true rfl) ⟨Nat.le_refl _, Nat.le_refl _⟩ dX8_write_91 rfl rfl ?_
    obtain ⟨h31, hF⟩ := sg_grdE hF
    refine g_ialdc 95 C 1 (r29.toNatClampNeg) (τ27 1 r29.toNatClampNeg) dX8_write_94 rfl rfl rfl h31 rfl ?_
    refine g_if_ne 98 103 C dX8_write_95 (by decide) rfl hF (fun hF => ?_) (fun hF => ?_)
    · refine g_aload_n 104 C dX8_write_103 rfl rfl rfl ?_
      refine g_aload_n 105 C dX8_write_104 rfl rfl rfl ?_
      refine g_get 108 C (own := RX8) (C1 := RX8) (T := TX8) 0 8 (.ref (ad 1)) kiX8_write_X8 kfX8_write_13 rfl dX8_write_105 rfl rfl rfl (by decide) rfl ?_
      refine g_iload_n 109 C dX8_write_108 rfl rfl rfl ?_
      refine g_iconst 110 C 3 dX8_write_109 rfl (by decide) ?_
      obtain ⟨r32, q33, hF⟩ := sg_bndE hF
      refine g_callSi 113 C (w2 := (ww_X8 Y ad τ27)) (As := [.int x1, .int 3]) (st := [.ref (ad 1), .ref (ad 0)]) (n0 := 2) [] [0, 1, 2, 3, 4, 5, 6, 7, 8, 9, 10, 11, 12] [0, 1, 2, 3, 4, 5, 6, 7, 8, 9, 10, 11, 12] (c_X8_at l hZ (ad := ad) (σ := τ27) q33) gX8_write_X8_at ⟨by decide +kernel, by decide +kernel, rfl⟩ rfl ⟨Nat.le_of_ble_eq_true rfl, Nat.le_of_ble_eq_true rfl⟩ ⟨rfl, rfl, rfl, by decide, rfl, rfl⟩ rfl rfl (Nat.le_of_ble_eq_true rfl) ⟨Nat.le_refl _, Nat.le_refl _⟩ dX8_write_110 rfl rfl ?_
      obtain ⟨h34, hF⟩ := sg_grdE hF
      refine g_ialdc 114 C 1 (r32.toNatClampNeg) (τ27 1 r32.toNatClampNeg) dX8_write_113 rfl rfl rfl h34 rfl ?_
      obtain ⟨τ35, q36, hF⟩ := sg_bndE hF
      refine g_callVv 117 C (w2 := (ww_X8 Y ad τ35)) (As := [.int (τ27 1 r32.toNatClampNeg)]) (st := []) (n0 := 1) (ci := 9) (q0 := 0) [0, 1, 2, 3, 4, 5, 6, 7, 8, 9, 10, 11, 12] [] [0, 1, 2, 3, 4, 5, 6, 7, 8, 9, 10, 11, 12] (c_X8_writesNumber l hZ (ad := ad) q36) gX8_write_X8_writesNumber ⟨rfl, by decide +kernel, by decide +kernel, rfl⟩ rfl ⟨Nat.le_of_ble_eq_true rfl, Nat.le_of_ble_eq_true rfl⟩ rfl rfl ⟨rfl, rfl, rfl, by decide, rfl, rfl⟩ rfl rfl (Nat.le_of_ble_eq_true rfl) ⟨Nat.le_refl _, Nat.le_refl _⟩ dX8_write_114 rfl rfl ?_
      refine g_aload_n 118 C dX8_write_117 rfl rfl rfl ?_
      refine g_bipush 120 C 97 dX8_write_118 rfl (by decide) ?_
      obtain ⟨τ37, q38, hF⟩ := sg_bndE hF
      refine g_callVv 123 C (w2 := (ww_X8 Y ad τ37)) (As := [.int 97]) (st := []) (n0 := 1) (ci := 9) (q0 := 0) [0, 1, 2, 3, 4, 5, 6, 7, 8, 9, 10, 11, 12] [] [0, 1, 2, 3, 4, 5, 6, 7, 8, 9, 10, 11, 12] (c_X8_writes l hZ (ad := ad) q38) gX8_write_X8_writes ⟨rfl, by decide +kernel, by decide +kernel, rfl⟩ rfl ⟨Nat.le_of_ble_eq_true rfl, Nat.le_of_ble_eq_true rfl⟩ rfl rfl ⟨rfl, rfl, rfl, by decide, rfl, rfl⟩ rfl rfl (Nat.le_of_ble_eq_true rfl) ⟨Nat.le_refl _, Nat.le_refl _⟩ dX8_write_120 rfl rfl ?_
      refine g_aload_n 124 C dX8_write_123 rfl rfl rfl ?_
      refine g_get 127 C (own := RX8) (C1 := RX8) (T := TX8) 0 24 (.int (τ37 0 24)) kiX8_write_X8 kfX8_write_175 rfl dX8_write_124 rfl rfl rfl (by decide) rfl ?_
      obtain ⟨e1, e2⟩ := sg_pairE hF
      exact g_iret C hr rfl hQ hsz dX8_write_127 e1.symm (by rw [e2])
    · refine g_aload_n 99 C dX8_write_98 rfl rfl rfl ?_
      refine g_get 102 C (own := RX8) (C1 := RX8) (T := TX8) 0 24 (.int (τ27 0 24)) kiX8_write_X8 kfX8_write_175 rfl dX8_write_99 rfl rfl rfl (by decide) rfl ?_
      obtain ⟨e1, e2⟩ := sg_pairE hF
      exact g_iret C hr rfl hQ hsz dX8_write_102 e1.symm (by rw [e2])
  · refine g_iconst 8 C (-1) dX8_write_7 rfl (by decide) ?_
    obtain ⟨e1, e2⟩ := sg_pairE hF
    exact g_iret C hr rfl hQ hsz dX8_write_8 e1.symm (by rw [e2])
theorem kiX8_writeCredits_X8 : ∀ w ∈ u_ws RX8 TX8 27, w ∈ wsX8_writeCredits := by decide +kernel
theorem kfX8_writeCredits_175 : Cond.fieldLink RX8 175 "WeatherMinistryModel" "lineN" "I" ∈ wsX8_writeCredits := by decide +kernel
theorem kfX8_writeCredits_13 : Cond.fieldLink RX8 13 "WeatherMinistryModel" "v" "[I" ∈ wsX8_writeCredits := by decide +kernel
def f_X8_writeCredits_J27 (κ7 : Int32 → sg_S → Option (Int32 × sg_S)) (z1 : Int32) (σz : sg_S) : Option (Int32 × sg_S) := sg_bnd (f_X8_in z1 0) (fun r2 => sg_grd (sg_in r2 79) (sg_bnd (f_X8_writesNumber (σz 1 r2.toNatClampNeg) σz) (fun τ5 => sg_bnd (f_X8_writes 42 τ5) (fun τ7 => sg_bnd (f_X8_in z1 1) (fun r9 => sg_grd (sg_in r9 79) (sg_bnd (f_X8_writesNumber (τ7 1 r9.toNatClampNeg) τ7) (fun τ12 => sg_bnd (f_X8_writes 64 τ12) (fun τ14 => sg_bnd (f_X8_in z1 2) (fun r16 => sg_grd (sg_in r16 79) (sg_bnd (f_X8_writesNumber (τ14 1 r16.toNatClampNeg) τ14) (fun τ19 => κ7 (z1 + 1) τ19)))))))))))
def f_X8_writeCredits_L7 : Nat → Int32 → sg_S → Option (Int32 × sg_S)
  | 0, _, _ => none
  | nz + 1, z1, σz => (if z1 < σz 1 1 then (if 0 < z1 then sg_bnd (f_X8_writes 32 σz) (fun τ21 => f_X8_writeCredits_J27 (fun z1' σz' => f_X8_writeCredits_L7 nz z1' σz') z1 τ21) else f_X8_writeCredits_J27 (fun z1' σz' => f_X8_writeCredits_L7 nz z1' σz') z1 σz) else some (σz 0 24, σz))
def f_X8_writeCredits  (σ : sg_S) : Option (Int32 × sg_S) := sg_let (sg_up σ 0 24 0) (fun σ1 => f_X8_writeCredits_L7 1000 0 σ1)
set_option maxHeartbeats 4000000 in
set_option maxRecDepth 100000 in
theorem c_X8_writeCredits (l : Launch) {D : va_G} {Y : Nat → ClassId} {Z : (Nat → Prop) → State → Heap → Prop} (hZ : sg_Zok Z) {ad : Nat → Nat} {σ : sg_S} {σ' : sg_S} {r : Int32} (hF : f_X8_writeCredits  σ = some (r, σ')) : sg_MI l yX8_writeCredits wsX8_writeCredits 2 43 D Y Z [.ref (ad 0)] (ww_X8 Y ad σ) r (ww_X8 Y ad σ') := by
  intro sz
  refine sg_enter (own := RX8) (maxL := 2) (ret := (some .int)) (cc := cX8_writeCredits) (by decide +kernel) rfl rfl (Nat.le_of_ble_eq_true rfl) hZ ?_
  intro p e s m args below meth c C hr Q hQ hsz
  refine g_lv (lv2 := [(0, .ref (ad 0))]) [0] rfl ?_
  have K27 : ∀ (κ7 : Int32 → sg_S → Option (Int32 × sg_S)), (∀ (z1 : Int32) (σz : sg_S), κ7 z1 σz = some (r, σ') → sg_G p l e ({ frames := 2, cells := 0, slots := 0, locals := 43 } : Room) s m args below meth c D (va_A (ww_X8 Y ad σ) s.heap.size) 2 0 0 Q 7 [(0, .ref (ad 0)), (1, .int z1)] [] (ww_X8 Y ad σz)) → ∀ (z1 : Int32) (σz : sg_S), f_X8_writeCredits_J27 κ7 z1 σz = some (r, σ') → sg_G p l e ({ frames := 2, cells := 0, slots := 0, locals := 43 } : Room) s m args below meth c D (va_A (ww_X8 Y ad σ) s.heap.size) 2 0 0 Q 27 [(0, .ref (ad 0)), (1, .int z1)] [] (ww_X8 Y ad σz) := by
    intro κ7 hκ7 z1 σz hF
    rw [f_X8_writeCredits_J27] at hF
    refine g_aload_n 28 C dX8_writeCredits_27 rfl rfl rfl ?_
    refine g_aload_n 29 C dX8_writeCredits_28 rfl rfl rfl ?_
    refine g_get 32 C (own := RX8) (C1 := RX8) (T := TX8) 0 8 (.ref (ad 1)) kiX8_writeCredits_X8 kfX8_writeCredits_13 rfl dX8_writeCredits_29 rfl rfl rfl (by decide) rfl ?_
    refine g_iload_n 33 C dX8_writeCredits_32 rfl rfl rfl ?_
    refine g_iconst 34 C 0 dX8_writeCredits_33 rfl (by decide) ?_
    obtain ⟨r2, q3, hF⟩ := sg_bndE hF
    refine g_callSi 37 C (w2 := (ww_X8 Y ad σz)) (As := [.int z1, .int 0]) (st := [.ref (ad 1), .ref (ad 0)]) (n0 := 2) [] [0, 1, 2, 3, 4, 5, 6, 7, 8, 9, 10, 11, 12] [0, 1, 2, 3, 4, 5, 6, 7, 8, 9, 10, 11, 12] (c_X8_in l hZ (ad := ad) (σ := σz) q3) gX8_writeCredits_X8_in ⟨by decide +kernel, by decide +kernel, rfl⟩ rfl ⟨Nat.le_of_ble_eq_true rfl, Nat.le_of_ble_eq_true rfl⟩ ⟨rfl, rfl, rfl, by decide, rfl, rfl⟩ rfl rfl (Nat.le_of_ble_eq_true rfl) ⟨Nat.le_refl _, Nat.le_refl _⟩ dX8_writeCredits_34 rfl rfl ?_
    obtain ⟨h4, hF⟩ := sg_grdE hF
    refine g_ialdc 38 C 1 (r2.toNatClampNeg) (σz 1 r2.toNatClampNeg) dX8_writeCredits_37 rfl rfl rfl h4 rfl ?_
    obtain ⟨τ5, q6, hF⟩ := sg_bndE hF
    refine g_callVv 41 C (w2 := (ww_X8 Y ad τ5)) (As := [.int (σz 1 r2.toNatClampNeg)]) (st := []) (n0 := 1) (ci := 9) (q0 := 0) [0, 1, 2, 3, 4, 5, 6, 7, 8, 9, 10, 11, 12] [] [0, 1, 2, 3, 4, 5, 6, 7, 8, 9, 10, 11, 12] (c_X8_writesNumber l hZ (ad := ad) q6) gX8_writeCredits_X8_writesNumber ⟨rfl, by decide +kernel, by decide +kernel, rfl⟩ rfl ⟨Nat.le_of_ble_eq_true rfl, Nat.le_of_ble_eq_true rfl⟩ rfl rfl ⟨rfl, rfl, rfl, by decide, rfl, rfl⟩ rfl rfl (Nat.le_of_ble_eq_true rfl) ⟨Nat.le_refl _, Nat.le_refl _⟩ dX8_writeCredits_38 rfl rfl ?_
    refine g_aload_n 42 C dX8_writeCredits_41 rfl rfl rfl ?_
    refine g_bipush 44 C 42 dX8_writeCredits_42 rfl (by decide) ?_
    obtain ⟨τ7, q8, hF⟩ := sg_bndE hF
    refine g_callVv 47 C (w2 := (ww_X8 Y ad τ7)) (As := [.int 42]) (st := []) (n0 := 1) (ci := 9) (q0 := 0) [0, 1, 2, 3, 4, 5, 6, 7, 8, 9, 10, 11, 12] [] [0, 1, 2, 3, 4, 5, 6, 7, 8, 9, 10, 11, 12] (c_X8_writes l hZ (ad := ad) q8) gX8_writeCredits_X8_writes ⟨rfl, by decide +kernel, by decide +kernel, rfl⟩ rfl ⟨Nat.le_of_ble_eq_true rfl, Nat.le_of_ble_eq_true rfl⟩ rfl rfl ⟨rfl, rfl, rfl, by decide, rfl, rfl⟩ rfl rfl (Nat.le_of_ble_eq_true rfl) ⟨Nat.le_refl _, Nat.le_refl _⟩ dX8_writeCredits_44 rfl rfl ?_
    refine g_aload_n 48 C dX8_writeCredits_47 rfl rfl rfl ?_
    refine g_aload_n 49 C dX8_writeCredits_48 rfl rfl rfl ?_
    refine g_get 52 C (own := RX8) (C1 := RX8) (T := TX8) 0 8 (.ref (ad 1)) kiX8_writeCredits_X8 kfX8_writeCredits_13 rfl dX8_writeCredits_49 rfl rfl rfl (by decide) rfl ?_
    refine g_iload_n 53 C dX8_writeCredits_52 rfl rfl rfl ?_
    refine g_iconst 54 C 1 dX8_writeCredits_53 rfl (by decide) ?_
    obtain ⟨r9, q10, hF⟩ := sg_bndE hF
    refine g_callSi 57 C (w2 := (ww_X8 Y ad τ7)) (As := [.int z1, .int 1]) (st := [.ref (ad 1), .ref (ad 0)]) (n0 := 2) [] [0, 1, 2, 3, 4, 5, 6, 7, 8, 9, 10, 11, 12] [0, 1, 2, 3, 4, 5, 6, 7, 8, 9, 10, 11, 12] (c_X8_in l hZ (ad := ad) (σ := τ7) q10) gX8_writeCredits_X8_in ⟨by decide +kernel, by decide +kernel, rfl⟩ rfl ⟨Nat.le_of_ble_eq_true rfl, Nat.le_of_ble_eq_true rfl⟩ ⟨rfl, rfl, rfl, by decide, rfl, rfl⟩ rfl rfl (Nat.le_of_ble_eq_true rfl) ⟨Nat.le_refl _, Nat.le_refl _⟩ dX8_writeCredits_54 rfl rfl ?_
    obtain ⟨h11, hF⟩ := sg_grdE hF
    refine g_ialdc 58 C 1 (r9.toNatClampNeg) (τ7 1 r9.toNatClampNeg) dX8_writeCredits_57 rfl rfl rfl h11 rfl ?_
    obtain ⟨τ12, q13, hF⟩ := sg_bndE hF
    refine g_callVv 61 C (w2 := (ww_X8 Y ad τ12)) (As := [.int (τ7 1 r9.toNatClampNeg)]) (st := []) (n0 := 1) (ci := 9) (q0 := 0) [0, 1, 2, 3, 4, 5, 6, 7, 8, 9, 10, 11, 12] [] [0, 1, 2, 3, 4, 5, 6, 7, 8, 9, 10, 11, 12] (c_X8_writesNumber l hZ (ad := ad) q13) gX8_writeCredits_X8_writesNumber ⟨rfl, by decide +kernel, by decide +kernel, rfl⟩ rfl ⟨Nat.le_of_ble_eq_true rfl, Nat.le_of_ble_eq_true rfl⟩ rfl rfl ⟨rfl, rfl, rfl, by decide, rfl, rfl⟩ rfl rfl (Nat.le_of_ble_eq_true rfl) ⟨Nat.le_refl _, Nat.le_refl _⟩ dX8_writeCredits_58 rfl rfl ?_
    refine g_aload_n 62 C dX8_writeCredits_61 rfl rfl rfl ?_
    refine g_bipush 64 C 64 dX8_writeCredits_62 rfl (by decide) ?_
    obtain ⟨τ14, q15, hF⟩ := sg_bndE hF
    refine g_callVv 67 C (w2 := (ww_X8 Y ad τ14)) (As := [.int 64]) (st := []) (n0 := 1) (ci := 9) (q0 := 0) [0, 1, 2, 3, 4, 5, 6, 7, 8, 9, 10, 11, 12] [] [0, 1, 2, 3, 4, 5, 6, 7, 8, 9, 10, 11, 12] (c_X8_writes l hZ (ad := ad) q15) gX8_writeCredits_X8_writes ⟨rfl, by decide +kernel, by decide +kernel, rfl⟩ rfl ⟨Nat.le_of_ble_eq_true rfl, Nat.le_of_ble_eq_true rfl⟩ rfl rfl ⟨rfl, rfl, rfl, by decide, rfl, rfl⟩ rfl rfl (Nat.le_of_ble_eq_true rfl) ⟨Nat.le_refl _, Nat.le_refl _⟩ dX8_writeCredits_64 rfl rfl ?_
    refine g_aload_n 68 C dX8_writeCredits_67 rfl rfl rfl ?_
    refine g_aload_n 69 C dX8_writeCredits_68 rfl rfl rfl ?_
    refine g_get 72 C (own := RX8) (C1 := RX8) (T := TX8) 0 8 (.ref (ad 1)) kiX8_writeCredits_X8 kfX8_writeCredits_13 rfl dX8_writeCredits_69 rfl rfl rfl (by decide) rfl ?_
    refine g_iload_n 73 C dX8_writeCredits_72 rfl rfl rfl ?_
    refine g_iconst 74 C 2 dX8_writeCredits_73 rfl (by decide) ?_
    obtain ⟨r16, q17, hF⟩ := sg_bndE hF
    refine g_callSi 77 C (w2 := (ww_X8 Y ad τ14)) (As := [.int z1, .int 2]) (st := [.ref (ad 1), .ref (ad 0)]) (n0 := 2) [] [0, 1, 2, 3, 4, 5, 6, 7, 8, 9, 10, 11, 12] [0, 1, 2, 3, 4, 5, 6, 7, 8, 9, 10, 11, 12] (c_X8_in l hZ (ad := ad) (σ := τ14) q17) gX8_writeCredits_X8_in ⟨by decide +kernel, by decide +kernel, rfl⟩ rfl ⟨Nat.le_of_ble_eq_true rfl, Nat.le_of_ble_eq_true rfl⟩ ⟨rfl, rfl, rfl, by decide, rfl, rfl⟩ rfl rfl (Nat.le_of_ble_eq_true rfl) ⟨Nat.le_refl _, Nat.le_refl _⟩ dX8_writeCredits_74 rfl rfl ?_
    obtain ⟨h18, hF⟩ := sg_grdE hF
    refine g_ialdc 78 C 1 (r16.toNatClampNeg) (τ14 1 r16.toNatClampNeg) dX8_writeCredits_77 rfl rfl rfl h18 rfl ?_
    obtain ⟨τ19, q20, hF⟩ := sg_bndE hF
    refine g_callVv 81 C (w2 := (ww_X8 Y ad τ19)) (As := [.int (τ14 1 r16.toNatClampNeg)]) (st := []) (n0 := 1) (ci := 9) (q0 := 0) [0, 1, 2, 3, 4, 5, 6, 7, 8, 9, 10, 11, 12] [] [0, 1, 2, 3, 4, 5, 6, 7, 8, 9, 10, 11, 12] (c_X8_writesNumber l hZ (ad := ad) q20) gX8_writeCredits_X8_writesNumber ⟨rfl, by decide +kernel, by decide +kernel, rfl⟩ rfl ⟨Nat.le_of_ble_eq_true rfl, Nat.le_of_ble_eq_true rfl⟩ rfl rfl ⟨rfl, rfl, rfl, by decide, rfl, rfl⟩ rfl rfl (Nat.le_of_ble_eq_true rfl) ⟨Nat.le_refl _, Nat.le_refl _⟩ dX8_writeCredits_78 rfl rfl ?_
    refine g_iinc 84 C 1 (z1 + 1) [(1, .int (z1 + 1)), (0, .ref (ad 0))] dX8_writeCredits_81 rfl rfl rfl (by decide) rfl ?_
    refine g_goto 7 C dX8_writeCredits_84 (by decide) ?_
    refine g_lv (lv2 := [(0, .ref (ad 0)), (1, .int (z1 + 1))]) [1, 0] rfl ?_
    exact hκ7 (z1 + 1) τ19 hF
  have K7 : ∀ (nz : Nat), ∀ (z1 : Int32) (σz : sg_S), f_X8_writeCredits_L7 nz z1 σz = some (r, σ') → sg_G p l e ({ frames := 2, cells := 0, slots := 0, locals := 43 } : Room) s m args below meth c D (va_A (ww_X8 Y ad σ) s.heap.size) 2 0 0 Q 7 [(0, .ref (ad 0)), (1, .int z1)] [] (ww_X8 Y ad σz) := by
    intro nz
    induction nz with
    | zero =>
      intro z1 σz hF
      rw [f_X8_writeCredits_L7.eq_1] at hF
      exact nomatch hF
    | succ nz ih =>
      intro z1 σz hF
      rw [f_X8_writeCredits_L7.eq_2] at hF
      refine g_iload_n 8 C dX8_writeCredits_7 rfl rfl rfl ?_
      refine g_aload_n 9 C dX8_writeCredits_8 rfl rfl rfl ?_
      refine g_get 12 C (own := RX8) (C1 := RX8) (T := TX8) 0 8 (.ref (ad 1)) kiX8_writeCredits_X8 kfX8_writeCredits_13 rfl dX8_writeCredits_9 rfl rfl rfl (by decide) rfl ?_
      refine g_iconst 13 C 1 dX8_writeCredits_12 rfl (by decide) ?_
      refine g_ialdc 14 C 1 (1) (σz 1 1) dX8_writeCredits_13 rfl rfl (by decide) (by decide) rfl ?_
      refine g_icmp_ge 17 87 C dX8_writeCredits_14 (by decide) rfl hF (fun hF => ?_) (fun hF => ?_)
      · refine g_aload_n 88 C dX8_writeCredits_87 rfl rfl rfl ?_
        refine g_get 91 C (own := RX8) (C1 := RX8) (T := TX8) 0 24 (.int (σz 0 24)) kiX8_writeCredits_X8 kfX8_writeCredits_175 rfl dX8_writeCredits_88 rfl rfl rfl (by decide) rfl ?_
        obtain ⟨e1, e2⟩ := sg_pairE hF
        exact g_iret C hr rfl hQ hsz dX8_writeCredits_91 e1.symm (by rw [e2])
      · refine g_iload_n 18 C dX8_writeCredits_17 rfl rfl rfl ?_
        refine g_if_le 21 27 C dX8_writeCredits_18 (by decide) rfl hF (fun hF => ?_) (fun hF => ?_)
        · refine g_lv (lv2 := [(0, .ref (ad 0)), (1, .int z1)]) [0, 1] rfl ?_
          exact K27 (fun z1' σz' => f_X8_writeCredits_L7 nz z1' σz') ih z1 σz hF
        · refine g_aload_n 22 C dX8_writeCredits_21 rfl rfl rfl ?_
          refine g_bipush 24 C 32 dX8_writeCredits_22 rfl (by decide) ?_
          obtain ⟨τ21, q22, hF⟩ := sg_bndE hF
          refine g_callVv 27 C (w2 := (ww_X8 Y ad τ21)) (As := [.int 32]) (st := []) (n0 := 1) (ci := 9) (q0 := 0) [0, 1, 2, 3, 4, 5, 6, 7, 8, 9, 10, 11, 12] [] [0, 1, 2, 3, 4, 5, 6, 7, 8, 9, 10, 11, 12] (c_X8_writes l hZ (ad := ad) q22) gX8_writeCredits_X8_writes ⟨rfl, by decide +kernel, by decide +kernel, rfl⟩ rfl ⟨Nat.le_of_ble_eq_true rfl, Nat.le_of_ble_eq_true rfl⟩ rfl rfl ⟨rfl, rfl, rfl, by decide, rfl, rfl⟩ rfl rfl (Nat.le_of_ble_eq_true rfl) ⟨Nat.le_refl _, Nat.le_refl _⟩ dX8_writeCredits_24 rfl rfl ?_
          refine g_lv (lv2 := [(0, .ref (ad 0)), (1, .int z1)]) [0, 1] rfl ?_
          exact K27 (fun z1' σz' => f_X8_writeCredits_L7 nz z1' σz') ih z1 τ21 hF
  rw [f_X8_writeCredits] at hF
  refine g_aload_n 1 C dX8_writeCredits_0 rfl rfl rfl ?_
  refine g_iconst 2 C 0 dX8_writeCredits_1 rfl (by decide) ?_
  obtain ⟨σ1, eσ1, hF⟩ := sg_letE hF
  refine g_put 5 C (own := RX8) (C1 := RX8) (T := TX8) (w2 := (ww_X8 Y ad σ1)) 0 24 tyX8 tyX8_ok nmX8 kiX8_writeCredits_X8 kfX8_writeCredits_175 rfl rfl (ty := .int) (by decide) rfl rfl (sg_blt rfl) dX8_writeCredits_2 rfl rfl rfl (by decide) (by rw [eσ1]; rfl) ?_
  refine g_iconst 6 C 0 dX8_writeCredits_5 rfl (by decide) ?_
  refine g_istore_n 7 C [(1, .int 0), (0, .ref (ad 0))] dX8_writeCredits_6 rfl rfl (by decide) rfl ?_
  refine g_lv (lv2 := [(0, .ref (ad 0)), (1, .int 0)]) [1, 0] rfl ?_
  exact K7  1000 0 σ1 hF
theorem kiX8_written_X8 : ∀ w ∈ u_ws RX8 TX8 27, w ∈ wsX8_written := by decide +kernel
theorem kfX8_written_175 : Cond.fieldLink RX8 175 "WeatherMinistryModel" "lineN" "I" ∈ wsX8_written := by decide +kernel
theorem kfX8_written_38 : Cond.fieldLink RX8 38 "WeatherMinistryModel" "line" "[I" ∈ wsX8_written := by decide +kernel
def f_X8_written (x1 : Int32) (σ : sg_S) : Option Int32 := sg_bnd (f_X8_isIn x1 0 ((σ 0 24) - 1)) (fun r1 => (if r1 = 0 then some ((-1)) else sg_grd (sg_in x1 140) (some (σ 9 x1.toNatClampNeg))))
set_option maxHeartbeats 4000000 in
set_option maxRecDepth 100000 in
theorem c_X8_written (l : Launch) {D : va_G} {Y : Nat → ClassId} {Z : (Nat → Prop) → State → Heap → Prop} (hZ : sg_Zok Z) {ad : Nat → Nat} {σ : sg_S} {x1 : Int32} {r : Int32} (hF : f_X8_written x1 σ = some r) : sg_MI l yX8_written wsX8_written 1 22 D Y Z [.ref (ad 0), .int x1] (ww_X8 Y ad σ) r (ww_X8 Y ad σ) := by
  intro sz
  refine sg_enter (own := RX8) (maxL := 2) (ret := (some .int)) (cc := cX8_written) (by decide +kernel) rfl rfl (Nat.le_of_ble_eq_true rfl) hZ ?_
  intro p e s m args below meth c C hr Q hQ hsz
  refine g_lv (lv2 := [(0, .ref (ad 0)), (1, .int x1)]) [0, 1] rfl ?_
  rw [f_X8_written] at hF
  refine g_iload_n 1 C dX8_written_0 rfl rfl rfl ?_
  refine g_iconst 2 C 0 dX8_written_1 rfl (by decide) ?_
  refine g_aload_n 3 C dX8_written_2 rfl rfl rfl ?_
  refine g_get 6 C (own := RX8) (C1 := RX8) (T := TX8) 0 24 (.int (σ 0 24)) kiX8_written_X8 kfX8_written_175 rfl dX8_written_3 rfl rfl rfl (by decide) rfl ?_
  refine g_iconst 7 C 1 dX8_written_6 rfl (by decide) ?_
  refine g_isub 8 C dX8_written_7 rfl ?_
  obtain ⟨r1, q2, hF⟩ := sg_bndE hF
  refine g_callSi 11 C (w2 := (ww_X8 Y ad σ)) (As := [.int x1, .int 0, .int ((σ 0 24) - 1)]) (st := []) (n0 := 3) [] [0, 1, 2, 3, 4, 5, 6, 7, 8, 9, 10, 11, 12] [0, 1, 2, 3, 4, 5, 6, 7, 8, 9, 10, 11, 12] (c_X8_isIn l hZ (ad := ad) (σ := σ) q2) gX8_written_X8_isIn ⟨by decide +kernel, by decide +kernel, rfl⟩ rfl ⟨Nat.le_of_ble_eq_true rfl, Nat.le_of_ble_eq_true rfl⟩ ⟨rfl, rfl, rfl, by decide, rfl, rfl⟩ rfl rfl (Nat.le_of_ble_eq_true rfl) ⟨Nat.le_refl _, Nat.le_refl _⟩ dX8_written_8 rfl rfl ?_
  refine g_if_eq 14 23 C dX8_written_11 (by decide) rfl hF (fun hF => ?_) (fun hF => ?_)
  · refine g_iconst 24 C (-1) dX8_written_23 rfl (by decide) ?_
    have e1 := sg_someE hF
    exact g_iret C hr rfl hQ hsz dX8_written_24 e1.symm rfl
  · refine g_aload_n 15 C dX8_written_14 rfl rfl rfl ?_
    refine g_get 18 C (own := RX8) (C1 := RX8) (T := TX8) 0 17 (.ref (ad 9)) kiX8_written_X8 kfX8_written_38 rfl dX8_written_15 rfl rfl rfl (by decide) rfl ?_
    refine g_iload_n 19 C dX8_written_18 rfl rfl rfl ?_
    obtain ⟨h3, hF⟩ := sg_grdE hF
    refine g_ialdc 20 C 9 (x1.toNatClampNeg) (σ 9 x1.toNatClampNeg) dX8_written_19 rfl rfl rfl h3 rfl ?_
    refine g_goto 24 C dX8_written_20 (by decide) ?_
    have e1 := sg_someE hF
    exact g_iret C hr rfl hQ hsz dX8_written_24 e1.symm rfl
theorem kiX8_append_X8 : ∀ w ∈ u_ws RX8 TX8 27, w ∈ wsX8_append := by decide +kernel
theorem kfX8_append_172 : Cond.fieldLink RX8 172 "WeatherMinistryModel" "textN" "I" ∈ wsX8_append := by decide +kernel
theorem kfX8_append_35 : Cond.fieldLink RX8 35 "WeatherMinistryModel" "text" "[I" ∈ wsX8_append := by decide +kernel
def f_X8_append (x1 : Int32) (σ : sg_S) : Option (Int32 × sg_S) := sg_bnd (f_X8_isIn x1 32 126) (fun r1 => (if r1 = 0 then some ((-2), σ) else (if σ 0 21 = 60 then some ((-4), σ) else sg_grd (sg_in (σ 0 21) 60) (sg_let (sg_up σ 8 ((σ 0 21).toNatClampNeg) x1) (fun σ4 => sg_let (sg_up σ4 0 21 ((σ4 0 21) + 1)) (fun σ5 => some (σ5 0 21, σ5)))))))
set_option maxHeartbeats 4000000 in
set_option maxRecDepth 100000 in
theorem c_X8_append (l : Launch) {D : va_G} {Y : Nat → ClassId} {Z : (Nat → Prop) → State → Heap → Prop} (hZ : sg_Zok Z) {ad : Nat → Nat} {σ : sg_S} {σ' : sg_S} {x1 : Int32} {r : Int32} (hF : f_X8_append x1 σ = some (r, σ')) : sg_MI l yX8_append wsX8_append 1 22 D Y Z [.ref (ad 0), .int x1] (ww_X8 Y ad σ) r (ww_X8 Y ad σ') := by
  intro sz
  refine sg_enter (own := RX8) (maxL := 2) (ret := (some .int)) (cc := cX8_append) (by decide +kernel) rfl rfl (Nat.le_of_ble_eq_true rfl) hZ ?_
  intro p e s m args below meth c C hr Q hQ hsz
  refine g_lv (lv2 := [(0, .ref (ad 0)), (1, .int x1)]) [0, 1] rfl ?_
  rw [f_X8_append] at hF
  refine g_iload_n 1 C dX8_append_0 rfl rfl rfl ?_
  refine g_bipush 3 C 32 dX8_append_1 rfl (by decide) ?_
  refine g_bipush 5 C 126 dX8_append_3 rfl (by decide) ?_
  obtain ⟨r1, q2, hF⟩ := sg_bndE hF
  refine g_callSi 8 C (w2 := (ww_X8 Y ad σ)) (As := [.int x1, .int 32, .int 126]) (st := []) (n0 := 3) [] [0, 1, 2, 3, 4, 5, 6, 7, 8, 9, 10, 11, 12] [0, 1, 2, 3, 4, 5, 6, 7, 8, 9, 10, 11, 12] (c_X8_isIn l hZ (ad := ad) (σ := σ) q2) gX8_append_X8_isIn ⟨by decide +kernel, by decide +kernel, rfl⟩ rfl ⟨Nat.le_of_ble_eq_true rfl, Nat.le_of_ble_eq_true rfl⟩ ⟨rfl, rfl, rfl, by decide, rfl, rfl⟩ rfl rfl (Nat.le_of_ble_eq_true rfl) ⟨Nat.le_refl _, Nat.le_refl _⟩ dX8_append_5 rfl rfl ?_
  refine g_if_ne 11 14 C dX8_append_8 (by decide) rfl hF (fun hF => ?_) (fun hF => ?_)
  · refine g_aload_n 15 C dX8_append_14 rfl rfl rfl ?_
    refine g_get 18 C (own := RX8) (C1 := RX8) (T := TX8) 0 21 (.int (σ 0 21)) kiX8_append_X8 kfX8_append_172 rfl dX8_append_15 rfl rfl rfl (by decide) rfl ?_
    refine g_bipush 20 C 60 dX8_append_18 rfl (by decide) ?_
    refine g_icmp_ne 23 26 C dX8_append_20 (by decide) rfl hF (fun hF => ?_) (fun hF => ?_)
    · refine g_aload_n 27 C dX8_append_26 rfl rfl rfl ?_
      refine g_get 30 C (own := RX8) (C1 := RX8) (T := TX8) 0 16 (.ref (ad 8)) kiX8_append_X8 kfX8_append_35 rfl dX8_append_27 rfl rfl rfl (by decide) rfl ?_
      refine g_aload_n 31 C dX8_append_30 rfl rfl rfl ?_
      refine g_get 34 C (own := RX8) (C1 := RX8) (T := TX8) 0 21 (.int (σ 0 21)) kiX8_append_X8 kfX8_append_172 rfl dX8_append_31 rfl rfl rfl (by decide) rfl ?_
      refine g_iload_n 35 C dX8_append_34 rfl rfl rfl ?_
      obtain ⟨h3, hF⟩ := sg_grdE hF
      obtain ⟨σ4, eσ4, hF⟩ := sg_letE hF
      refine g_iast 36 C (w2 := (ww_X8 Y ad σ4)) 8 dX8_append_35 rfl rfl h3 (by rw [eσ4]; rfl) ?_
      refine g_aload_n 37 C dX8_append_36 rfl rfl rfl ?_
      refine g_dup 38 C dX8_append_37 rfl rfl ?_
      refine g_get 41 C (own := RX8) (C1 := RX8) (T := TX8) 0 21 (.int (σ4 0 21)) kiX8_append_X8 kfX8_append_172 rfl dX8_append_38 rfl rfl rfl (by decide) rfl ?_
      refine g_iconst 42 C 1 dX8_append_41 rfl (by decide) ?_
      refine g_iadd 43 C dX8_append_42 rfl ?_
      obtain ⟨σ5, eσ5, hF⟩ := sg_letE hF
      refine g_put 46 C (own := RX8) (C1 := RX8) (T := TX8) (w2 := (ww_X8 Y ad σ5)) 0 21 tyX8 tyX8_ok nmX8 kiX8_append_X8 kfX8_append_172 rfl rfl (ty := .int) (by decide) rfl rfl (sg_blt rfl) dX8_append_43 rfl rfl rfl (by decide) (by rw [eσ5]; rfl) ?_
      refine g_aload_n 47 C dX8_append_46 rfl rfl rfl ?_
      refine g_get 50 C (own := RX8) (C1 := RX8) (T := TX8) 0 21 (.int (σ5 0 21)) kiX8_append_X8 kfX8_append_172 rfl dX8_append_47 rfl rfl rfl (by decide) rfl ?_
      obtain ⟨e1, e2⟩ := sg_pairE hF
      exact g_iret C hr rfl hQ hsz dX8_append_50 e1.symm (by rw [e2])
    · refine g_bipush 25 C (-4) dX8_append_23 rfl (by decide) ?_
      obtain ⟨e1, e2⟩ := sg_pairE hF
      exact g_iret C hr rfl hQ hsz dX8_append_25 e1.symm (by rw [e2])
  · refine g_bipush 13 C (-2) dX8_append_11 rfl (by decide) ?_
    obtain ⟨e1, e2⟩ := sg_pairE hF
    exact g_iret C hr rfl hQ hsz dX8_append_13 e1.symm (by rw [e2])
theorem kiX8_sign_X8 : ∀ w ∈ u_ws RX8 TX8 27, w ∈ wsX8_sign := by decide +kernel
theorem kfX8_sign_184 : Cond.fieldLink RX8 184 "WeatherMinistryModel" "here" "I" ∈ wsX8_sign := by decide +kernel
theorem kfX8_sign_187 : Cond.fieldLink RX8 187 "WeatherMinistryModel" "end" "I" ∈ wsX8_sign := by decide +kernel
theorem kfX8_sign_35 : Cond.fieldLink RX8 35 "WeatherMinistryModel" "text" "[I" ∈ wsX8_sign := by decide +kernel
def f_X8_sign  (σ : sg_S) : Option Int32 := (if σ 0 22 < σ 0 23 then sg_grd (sg_in (σ 0 22) 60) (some (σ 8 (σ 0 22).toNatClampNeg)) else some ((-1)))
set_option maxHeartbeats 4000000 in
set_option maxRecDepth 100000 in
theorem c_X8_sign (l : Launch) {D : va_G} {Y : Nat → ClassId} {Z : (Nat → Prop) → State → Heap → Prop} (hZ : sg_Zok Z) {ad : Nat → Nat} {σ : sg_S} {r : Int32} (hF : f_X8_sign  σ = some r) : sg_MI l yX8_sign wsX8_sign 0 0 D Y Z [.ref (ad 0)] (ww_X8 Y ad σ) r (ww_X8 Y ad σ) := by
  intro sz
  refine sg_enter (own := RX8) (maxL := 1) (ret := (some .int)) (cc := cX8_sign) (by decide +kernel) rfl rfl (Nat.le_of_ble_eq_true rfl) hZ ?_
  intro p e s m args below meth c C hr Q hQ hsz
  refine g_lv (lv2 := [(0, .ref (ad 0))]) [0] rfl ?_
  rw [f_X8_sign] at hF
  refine g_aload_n 1 C dX8_sign_0 rfl rfl rfl ?_
  refine g_get 4 C (own := RX8) (C1 := RX8) (T := TX8) 0 22 (.int (σ 0 22)) kiX8_sign_X8 kfX8_sign_184 rfl dX8_sign_1 rfl rfl rfl (by decide) rfl ?_
  refine g_aload_n 5 C dX8_sign_4 rfl rfl rfl ?_
  refine g_get 8 C (own := RX8) (C1 := RX8) (T := TX8) 0 23 (.int (σ 0 23)) kiX8_sign_X8 kfX8_sign_187 rfl dX8_sign_5 rfl rfl rfl (by decide) rfl ?_
  refine g_icmp_ge 11 23 C dX8_sign_8 (by decide) rfl hF (fun hF => ?_) (fun hF => ?_)
  · refine g_iconst 24 C (-1) dX8_sign_23 rfl (by decide) ?_
    have e1 := sg_someE hF
    exact g_iret C hr rfl hQ hsz dX8_sign_24 e1.symm rfl
  · refine g_aload_n 12 C dX8_sign_11 rfl rfl rfl ?_
    refine g_get 15 C (own := RX8) (C1 := RX8) (T := TX8) 0 16 (.ref (ad 8)) kiX8_sign_X8 kfX8_sign_35 rfl dX8_sign_12 rfl rfl rfl (by decide) rfl ?_
    refine g_aload_n 16 C dX8_sign_15 rfl rfl rfl ?_
    refine g_get 19 C (own := RX8) (C1 := RX8) (T := TX8) 0 22 (.int (σ 0 22)) kiX8_sign_X8 kfX8_sign_184 rfl dX8_sign_16 rfl rfl rfl (by decide) rfl ?_
    obtain ⟨h1, hF⟩ := sg_grdE hF
    refine g_ialdc 20 C 8 ((σ 0 22).toNatClampNeg) (σ 8 (σ 0 22).toNatClampNeg) dX8_sign_19 rfl rfl rfl h1 rfl ?_
    refine g_goto 24 C dX8_sign_20 (by decide) ?_
    have e1 := sg_someE hF
    exact g_iret C hr rfl hQ hsz dX8_sign_24 e1.symm rfl
theorem kiX8_digits_X8 : ∀ w ∈ u_ws RX8 TX8 27, w ∈ wsX8_digits := by decide +kernel
theorem kfX8_digits_190 : Cond.fieldLink RX8 190 "WeatherMinistryModel" "isWrong" "Z" ∈ wsX8_digits := by decide +kernel
theorem kfX8_digits_184 : Cond.fieldLink RX8 184 "WeatherMinistryModel" "here" "I" ∈ wsX8_digits := by decide +kernel
def f_X8_digits_J59 (x1 : Int32) (z2 : Int32) (z3 : Int32) (σz : sg_S) : Option (Int32 × sg_S) := (if z3 = 0 then sg_grd (sg_01 ((σz 0 25) ||| 1)) (sg_let (sg_up σz 0 25 ((σz 0 25) ||| 1)) (fun σ4 => some (z2, σ4))) else sg_grd (sg_01 ((σz 0 25) ||| 0)) (sg_let (sg_up σz 0 25 ((σz 0 25) ||| 0)) (fun σ2 => some (z2, σ2))))
def f_X8_digits_L4 (x1 : Int32) : Nat → Int32 → Int32 → sg_S → Option (Int32 × sg_S)
  | 0, _, _, _ => none
  | nz + 1, z2, z3, σz => (if σz 0 25 = 0 then (if z3 < x1 then sg_bnd (f_X8_sign  σz) (fun r5 => sg_bnd (f_X8_isIn r5 48 57) (fun r7 => (if r7 = 0 then f_X8_digits_J59 x1 z2 z3 σz else sg_bnd (f_X8_sign  σz) (fun r9 => sg_let (((10 * z2) + r9) - 48) (fun y11 => sg_let (sg_up σz 0 22 ((σz 0 22) + 1)) (fun σ12 => f_X8_digits_L4 x1 nz y11 (z3 + 1) σ12)))))) else f_X8_digits_J59 x1 z2 z3 σz) else f_X8_digits_J59 x1 z2 z3 σz)
def f_X8_digits (x1 : Int32) (σ : sg_S) : Option (Int32 × sg_S) := f_X8_digits_L4 x1 1000 0 0 σ
set_option maxHeartbeats 4000000 in
set_option maxRecDepth 100000 in
theorem c_X8_digits (l : Launch) {D : va_G} {Y : Nat → ClassId} {Z : (Nat → Prop) → State → Heap → Prop} (hZ : sg_Zok Z) {ad : Nat → Nat} {σ : sg_S} {σ' : sg_S} {x1 : Int32} {r : Int32} (hF : f_X8_digits x1 σ = some (r, σ')) : sg_MI l yX8_digits wsX8_digits 1 22 D Y Z [.ref (ad 0), .int x1] (ww_X8 Y ad σ) r (ww_X8 Y ad σ') := by
  intro sz
  refine sg_enter (own := RX8) (maxL := 4) (ret := (some .int)) (cc := cX8_digits) (by decide +kernel) rfl rfl (Nat.le_of_ble_eq_true rfl) hZ ?_
  intro p e s m args below meth c C hr Q hQ hsz
  refine g_lv (lv2 := [(0, .ref (ad 0)), (1, .int x1)]) [0, 1] rfl ?_
  have K59 : ∀ (z2 : Int32) (z3 : Int32) (σz : sg_S), f_X8_digits_J59 x1 z2 z3 σz = some (r, σ') → sg_G p l e ({ frames := 1, cells := 0, slots := 0, locals := 22 } : Room) s m args below meth c D (va_A (ww_X8 Y ad σ) s.heap.size) 4 0 0 Q 59 [(0, .ref (ad 0)), (2, .int z2), (3, .int z3)] [] (ww_X8 Y ad σz) := by
    intro  z2 z3 σz hF
    rw [f_X8_digits_J59] at hF
    refine g_aload_n 60 C dX8_digits_59 rfl rfl rfl ?_
    refine g_dup 61 C dX8_digits_60 rfl rfl ?_
    refine g_get 64 C (own := RX8) (C1 := RX8) (T := TX8) 0 25 (.int (σz 0 25)) kiX8_digits_X8 kfX8_digits_190 rfl dX8_digits_61 rfl rfl rfl (by decide) rfl ?_
    refine g_iload_n 65 C dX8_digits_64 rfl rfl rfl ?_
    refine g_if_ne 68 72 C dX8_digits_65 (by decide) rfl hF (fun hF => ?_) (fun hF => ?_)
    · refine g_iconst 73 C 0 dX8_digits_72 rfl (by decide) ?_
      refine g_ior 74 C dX8_digits_73 rfl ?_
      obtain ⟨h1, hF⟩ := sg_grdE hF
      obtain ⟨σ2, eσ2, hF⟩ := sg_letE hF
      refine g_put 77 C (own := RX8) (C1 := RX8) (T := TX8) (w2 := (ww_X8 Y ad σ2)) 0 25 tyX8 tyX8_ok nmX8 kiX8_digits_X8 kfX8_digits_190 rfl rfl (ty := .boolean) (by decide) (sg_01n h1).1 (sg_01n h1).2 (sg_blt rfl) dX8_digits_74 rfl rfl rfl (by decide) (by rw [eσ2]; rfl) ?_
      refine g_iload_n 78 C dX8_digits_77 rfl rfl rfl ?_
      obtain ⟨e1, e2⟩ := sg_pairE hF
      exact g_iret C hr rfl hQ hsz dX8_digits_78 e1.symm (by rw [e2])
    · refine g_iconst 69 C 1 dX8_digits_68 rfl (by decide) ?_
      refine g_goto 73 C dX8_digits_69 (by decide) ?_
      refine g_ior 74 C dX8_digits_73 rfl ?_
      obtain ⟨h3, hF⟩ := sg_grdE hF
      obtain ⟨σ4, eσ4, hF⟩ := sg_letE hF
      refine g_put 77 C (own := RX8) (C1 := RX8) (T := TX8) (w2 := (ww_X8 Y ad σ4)) 0 25 tyX8 tyX8_ok nmX8 kiX8_digits_X8 kfX8_digits_190 rfl rfl (ty := .boolean) (by decide) (sg_01n h3).1 (sg_01n h3).2 (sg_blt rfl) dX8_digits_74 rfl rfl rfl (by decide) (by rw [eσ4]; rfl) ?_
      refine g_iload_n 78 C dX8_digits_77 rfl rfl rfl ?_
      obtain ⟨e1, e2⟩ := sg_pairE hF
      exact g_iret C hr rfl hQ hsz dX8_digits_78 e1.symm (by rw [e2])
  have K4 : ∀ (nz : Nat), ∀ (z2 : Int32) (z3 : Int32) (σz : sg_S), f_X8_digits_L4 x1 nz z2 z3 σz = some (r, σ') → sg_G p l e ({ frames := 1, cells := 0, slots := 0, locals := 22 } : Room) s m args below meth c D (va_A (ww_X8 Y ad σ) s.heap.size) 4 0 0 Q 4 [(0, .ref (ad 0)), (1, .int x1), (2, .int z2), (3, .int z3)] [] (ww_X8 Y ad σz) := by
    intro nz
    induction nz with
    | zero =>
      intro z2 z3 σz hF
      rw [f_X8_digits_L4.eq_1] at hF
      exact nomatch hF
    | succ nz ih =>
      intro z2 z3 σz hF
      rw [f_X8_digits_L4.eq_2] at hF
      refine g_aload_n 5 C dX8_digits_4 rfl rfl rfl ?_
      refine g_get 8 C (own := RX8) (C1 := RX8) (T := TX8) 0 25 (.int (σz 0 25)) kiX8_digits_X8 kfX8_digits_190 rfl dX8_digits_5 rfl rfl rfl (by decide) rfl ?_
      refine g_if_ne 11 59 C dX8_digits_8 (by decide) rfl hF (fun hF => ?_) (fun hF => ?_)
      · refine g_lv (lv2 := [(0, .ref (ad 0)), (2, .int z2), (3, .int z3)]) [0, 2, 3] rfl ?_
        exact K59  z2 z3 σz hF
      · refine g_iload_n 12 C dX8_digits_11 rfl rfl rfl ?_
        refine g_iload_n 13 C dX8_digits_12 rfl rfl rfl ?_
        refine g_icmp_ge 16 59 C dX8_digits_13 (by decide) rfl hF (fun hF => ?_) (fun hF => ?_)
        · refine g_lv (lv2 := [(0, .ref (ad 0)), (2, .int z2), (3, .int z3)]) [0, 2, 3] rfl ?_
          exact K59  z2 z3 σz hF
        · refine g_aload_n 17 C dX8_digits_16 rfl rfl rfl ?_
          obtain ⟨r5, q6, hF⟩ := sg_bndE hF
          refine g_callVi 20 C (w2 := (ww_X8 Y ad σz)) (As := []) (st := []) (n0 := 0) (ci := 9) (q0 := 0) [0, 1, 2, 3, 4, 5, 6, 7, 8, 9, 10, 11, 12] [] [0, 1, 2, 3, 4, 5, 6, 7, 8, 9, 10, 11, 12] (c_X8_sign l hZ (ad := ad) q6) gX8_digits_X8_sign ⟨rfl, by decide +kernel, by decide +kernel, rfl⟩ rfl ⟨Nat.le_of_ble_eq_true rfl, Nat.le_of_ble_eq_true rfl⟩ rfl rfl ⟨rfl, rfl, rfl, by decide, rfl, rfl⟩ rfl rfl (Nat.le_of_ble_eq_true rfl) ⟨Nat.le_refl _, Nat.le_refl _⟩ dX8_digits_17 rfl rfl ?_
          refine g_bipush 22 C 48 dX8_digits_20 rfl (by decide) ?_
          refine g_bipush 24 C 57 dX8_digits_22 rfl (by decide) ?_
          obtain ⟨r7, q8, hF⟩ := sg_bndE hF
          refine g_callSi 27 C (w2 := (ww_X8 Y ad σz)) (As := [.int r5, .int 48, .int 57]) (st := []) (n0 := 3) [] [0, 1, 2, 3, 4, 5, 6, 7, 8, 9, 10, 11, 12] [0, 1, 2, 3, 4, 5, 6, 7, 8, 9, 10, 11, 12] (c_X8_isIn l hZ (ad := ad) (σ := σz) q8) gX8_digits_X8_isIn ⟨by decide +kernel, by decide +kernel, rfl⟩ rfl ⟨Nat.le_of_ble_eq_true rfl, Nat.le_of_ble_eq_true rfl⟩ ⟨rfl, rfl, rfl, by decide, rfl, rfl⟩ rfl rfl (Nat.le_of_ble_eq_true rfl) ⟨Nat.le_refl _, Nat.le_refl _⟩ dX8_digits_24 rfl rfl ?_
          refine g_if_eq 30 59 C dX8_digits_27 (by decide) rfl hF (fun hF => ?_) (fun hF => ?_)
          · refine g_lv (lv2 := [(0, .ref (ad 0)), (2, .int z2), (3, .int z3)]) [0, 2, 3] rfl ?_
            exact K59  z2 z3 σz hF
          · refine g_bipush 32 C 10 dX8_digits_30 rfl (by decide) ?_
            refine g_iload_n 33 C dX8_digits_32 rfl rfl rfl ?_
            refine g_imul 34 C dX8_digits_33 rfl ?_
            refine g_aload_n 35 C dX8_digits_34 rfl rfl rfl ?_
            obtain ⟨r9, q10, hF⟩ := sg_bndE hF
            refine g_callVi 38 C (w2 := (ww_X8 Y ad σz)) (As := []) (st := [.int (10 * z2)]) (n0 := 0) (ci := 9) (q0 := 0) [0, 1, 2, 3, 4, 5, 6, 7, 8, 9, 10, 11, 12] [] [0, 1, 2, 3, 4, 5, 6, 7, 8, 9, 10, 11, 12] (c_X8_sign l hZ (ad := ad) q10) gX8_digits_X8_sign ⟨rfl, by decide +kernel, by decide +kernel, rfl⟩ rfl ⟨Nat.le_of_ble_eq_true rfl, Nat.le_of_ble_eq_true rfl⟩ rfl rfl ⟨rfl, rfl, rfl, by decide, rfl, rfl⟩ rfl rfl (Nat.le_of_ble_eq_true rfl) ⟨Nat.le_refl _, Nat.le_refl _⟩ dX8_digits_35 rfl rfl ?_
            refine g_iadd 39 C dX8_digits_38 rfl ?_
            refine g_bipush 41 C 48 dX8_digits_39 rfl (by decide) ?_
            refine g_isub 42 C dX8_digits_41 rfl ?_
            obtain ⟨y11, ey11, hF⟩ := sg_letE hF
            refine g_top ey11 ?_
            refine g_istore_n 43 C [(2, .int y11), (0, .ref (ad 0)), (1, .int x1), (3, .int z3)] dX8_digits_42 rfl rfl (by decide) rfl ?_
            refine g_aload_n 44 C dX8_digits_43 rfl rfl rfl ?_
            refine g_dup 45 C dX8_digits_44 rfl rfl ?_
            refine g_get 48 C (own := RX8) (C1 := RX8) (T := TX8) 0 22 (.int (σz 0 22)) kiX8_digits_X8 kfX8_digits_184 rfl dX8_digits_45 rfl rfl rfl (by decide) rfl ?_
            refine g_iconst 49 C 1 dX8_digits_48 rfl (by decide) ?_
            refine g_iadd 50 C dX8_digits_49 rfl ?_
            obtain ⟨σ12, eσ12, hF⟩ := sg_letE hF
            refine g_put 53 C (own := RX8) (C1 := RX8) (T := TX8) (w2 := (ww_X8 Y ad σ12)) 0 22 tyX8 tyX8_ok nmX8 kiX8_digits_X8 kfX8_digits_184 rfl rfl (ty := .int) (by decide) rfl rfl (sg_blt rfl) dX8_digits_50 rfl rfl rfl (by decide) (by rw [eσ12]; rfl) ?_
            refine g_iinc 56 C 3 (z3 + 1) [(3, .int (z3 + 1)), (2, .int y11), (0, .ref (ad 0)), (1, .int x1)] dX8_digits_53 rfl rfl rfl (by decide) rfl ?_
            refine g_goto 4 C dX8_digits_56 (by decide) ?_
            refine g_lv (lv2 := [(0, .ref (ad 0)), (1, .int x1), (2, .int y11), (3, .int (z3 + 1))]) [2, 3, 1, 0] rfl ?_
            exact ih y11 (z3 + 1) σ12 hF
  rw [f_X8_digits] at hF
  refine g_iconst 1 C 0 dX8_digits_0 rfl (by decide) ?_
  refine g_istore_n 2 C [(2, .int 0), (0, .ref (ad 0)), (1, .int x1)] dX8_digits_1 rfl rfl (by decide) rfl ?_
  refine g_iconst 3 C 0 dX8_digits_2 rfl (by decide) ?_
  refine g_istore_n 4 C [(3, .int 0), (2, .int 0), (0, .ref (ad 0)), (1, .int x1)] dX8_digits_3 rfl rfl (by decide) rfl ?_
  refine g_lv (lv2 := [(0, .ref (ad 0)), (1, .int x1), (2, .int 0), (3, .int 0)]) [2, 3, 1, 0] rfl ?_
  exact K4  1000 0 0 σ hF
theorem kiX8_blankAnd_X8 : ∀ w ∈ u_ws RX8 TX8 27, w ∈ wsX8_blankAnd := by decide +kernel
theorem kfX8_blankAnd_190 : Cond.fieldLink RX8 190 "WeatherMinistryModel" "isWrong" "Z" ∈ wsX8_blankAnd := by decide +kernel
theorem kfX8_blankAnd_184 : Cond.fieldLink RX8 184 "WeatherMinistryModel" "here" "I" ∈ wsX8_blankAnd := by decide +kernel
def f_X8_blankAnd_J44 (x1 : Int32) (t0 : Int32) (t1 : Int32) (σz : sg_S) : Option (Int32 × sg_S) := sg_let (sg_up σz 0 22 (t1 + t0)) (fun σ5 => (if σ5 0 25 = 0 then sg_bnd2 (f_X8_digits x1 σ5) (fun r8 τ6 => some (r8, τ6)) else some (0, σ5)))
def f_X8_blankAnd_J24 (x1 : Int32) (t0 : Int32) (σz : sg_S) : Option (Int32 × sg_S) := sg_grd (sg_01 t0) (sg_let (sg_up σz 0 25 t0) (fun σ4 => (if σ4 0 25 = 0 then f_X8_blankAnd_J44 x1 1 (σ4 0 22) σ4 else f_X8_blankAnd_J44 x1 0 (σ4 0 22) σ4)))
def f_X8_blankAnd (x1 : Int32) (σ : sg_S) : Option (Int32 × sg_S) := (if σ 0 25 = 0 then sg_bnd (f_X8_sign  σ) (fun r1 => (if r1 = 32 then f_X8_blankAnd_J24 x1 0 σ else f_X8_blankAnd_J24 x1 1 σ)) else some (0, σ))
set_option maxHeartbeats 4000000 in
set_option maxRecDepth 100000 in
theorem c_X8_blankAnd (l : Launch) {D : va_G} {Y : Nat → ClassId} {Z : (Nat → Prop) → State → Heap → Prop} (hZ : sg_Zok Z) {ad : Nat → Nat} {σ : sg_S} {σ' : sg_S} {x1 : Int32} {r : Int32} (hF : f_X8_blankAnd x1 σ = some (r, σ')) : sg_MI l yX8_blankAnd wsX8_blankAnd 2 45 D Y Z [.ref (ad 0), .int x1] (ww_X8 Y ad σ) r (ww_X8 Y ad σ') := by
  intro sz
  refine sg_enter (own := RX8) (maxL := 2) (ret := (some .int)) (cc := cX8_blankAnd) (by decide +kernel) rfl rfl (Nat.le_of_ble_eq_true rfl) hZ ?_
  intro p e s m args below meth c C hr Q hQ hsz
  refine g_lv (lv2 := [(0, .ref (ad 0)), (1, .int x1)]) [0, 1] rfl ?_
  have K44 : ∀ (t0 : Int32) (t1 : Int32) (σz : sg_S), f_X8_blankAnd_J44 x1 t0 t1 σz = some (r, σ') → sg_G p l e ({ frames := 2, cells := 0, slots := 0, locals := 45 } : Room) s m args below meth c D (va_A (ww_X8 Y ad σ) s.heap.size) 2 0 0 Q 44 [(0, .ref (ad 0)), (1, .int x1)] [.int t0, .int t1, .ref (ad 0)] (ww_X8 Y ad σz) := by
    intro  t0 t1 σz hF
    rw [f_X8_blankAnd_J44] at hF
    refine g_iadd 45 C dX8_blankAnd_44 rfl ?_
    obtain ⟨σ5, eσ5, hF⟩ := sg_letE hF
    refine g_put 48 C (own := RX8) (C1 := RX8) (T := TX8) (w2 := (ww_X8 Y ad σ5)) 0 22 tyX8 tyX8_ok nmX8 kiX8_blankAnd_X8 kfX8_blankAnd_184 rfl rfl (ty := .int) (by decide) rfl rfl (sg_blt rfl) dX8_blankAnd_45 rfl rfl rfl (by decide) (by rw [eσ5]; rfl) ?_
    refine g_aload_n 49 C dX8_blankAnd_48 rfl rfl rfl ?_
    refine g_get 52 C (own := RX8) (C1 := RX8) (T := TX8) 0 25 (.int (σ5 0 25)) kiX8_blankAnd_X8 kfX8_blankAnd_190 rfl dX8_blankAnd_49 rfl rfl rfl (by decide) rfl ?_
    refine g_if_eq 55 59 C dX8_blankAnd_52 (by decide) rfl hF (fun hF => ?_) (fun hF => ?_)
    · refine g_aload_n 60 C dX8_blankAnd_59 rfl rfl rfl ?_
      refine g_iload_n 61 C dX8_blankAnd_60 rfl rfl rfl ?_
      obtain ⟨r8, τ6, q7, hF⟩ := sg_bnd2E hF
      refine g_callVi 64 C (w2 := (ww_X8 Y ad τ6)) (As := [.int x1]) (st := []) (n0 := 1) (ci := 9) (q0 := 0) [0, 1, 2, 3, 4, 5, 6, 7, 8, 9, 10, 11, 12] [] [0, 1, 2, 3, 4, 5, 6, 7, 8, 9, 10, 11, 12] (c_X8_digits l hZ (ad := ad) q7) gX8_blankAnd_X8_digits ⟨rfl, by decide +kernel, by decide +kernel, rfl⟩ rfl ⟨Nat.le_of_ble_eq_true rfl, Nat.le_of_ble_eq_true rfl⟩ rfl rfl ⟨rfl, rfl, rfl, by decide, rfl, rfl⟩ rfl rfl (Nat.le_of_ble_eq_true rfl) ⟨Nat.le_refl _, Nat.le_refl _⟩ dX8_blankAnd_61 rfl rfl ?_
      obtain ⟨e1, e2⟩ := sg_pairE hF
      exact g_iret C hr rfl hQ hsz dX8_blankAnd_64 e1.symm (by rw [e2])
    · refine g_iconst 56 C 0 dX8_blankAnd_55 rfl (by decide) ?_
      refine g_goto 64 C dX8_blankAnd_56 (by decide) ?_
      obtain ⟨e1, e2⟩ := sg_pairE hF
      exact g_iret C hr rfl hQ hsz dX8_blankAnd_64 e1.symm (by rw [e2])
  have K24 : ∀ (t0 : Int32) (σz : sg_S), f_X8_blankAnd_J24 x1 t0 σz = some (r, σ') → sg_G p l e ({ frames := 2, cells := 0, slots := 0, locals := 45 } : Room) s m args below meth c D (va_A (ww_X8 Y ad σ) s.heap.size) 2 0 0 Q 24 [(0, .ref (ad 0)), (1, .int x1)] [.int t0, .ref (ad 0)] (ww_X8 Y ad σz) := by
    intro  t0 σz hF
    rw [f_X8_blankAnd_J24] at hF
    obtain ⟨h3, hF⟩ := sg_grdE hF
    obtain ⟨σ4, eσ4, hF⟩ := sg_letE hF
    refine g_put 27 C (own := RX8) (C1 := RX8) (T := TX8) (w2 := (ww_X8 Y ad σ4)) 0 25 tyX8 tyX8_ok nmX8 kiX8_blankAnd_X8 kfX8_blankAnd_190 rfl rfl (ty := .boolean) (by decide) (sg_01n h3).1 (sg_01n h3).2 (sg_blt rfl) dX8_blankAnd_24 rfl rfl rfl (by decide) (by rw [eσ4]; rfl) ?_
    refine g_aload_n 28 C dX8_blankAnd_27 rfl rfl rfl ?_
    refine g_dup 29 C dX8_blankAnd_28 rfl rfl ?_
    refine g_get 32 C (own := RX8) (C1 := RX8) (T := TX8) 0 22 (.int (σ4 0 22)) kiX8_blankAnd_X8 kfX8_blankAnd_184 rfl dX8_blankAnd_29 rfl rfl rfl (by decide) rfl ?_
    refine g_aload_n 33 C dX8_blankAnd_32 rfl rfl rfl ?_
    refine g_get 36 C (own := RX8) (C1 := RX8) (T := TX8) 0 25 (.int (σ4 0 25)) kiX8_blankAnd_X8 kfX8_blankAnd_190 rfl dX8_blankAnd_33 rfl rfl rfl (by decide) rfl ?_
    refine g_if_eq 39 43 C dX8_blankAnd_36 (by decide) rfl hF (fun hF => ?_) (fun hF => ?_)
    · refine g_iconst 44 C 1 dX8_blankAnd_43 rfl (by decide) ?_
      refine g_lv (lv2 := [(0, .ref (ad 0)), (1, .int x1)]) [0, 1] rfl ?_
      exact K44  1 (σ4 0 22) σ4 hF
    · refine g_iconst 40 C 0 dX8_blankAnd_39 rfl (by decide) ?_
      refine g_goto 44 C dX8_blankAnd_40 (by decide) ?_
      refine g_lv (lv2 := [(0, .ref (ad 0)), (1, .int x1)]) [0, 1] rfl ?_
      exact K44  0 (σ4 0 22) σ4 hF
  rw [f_X8_blankAnd] at hF
  refine g_aload_n 1 C dX8_blankAnd_0 rfl rfl rfl ?_
  refine g_get 4 C (own := RX8) (C1 := RX8) (T := TX8) 0 25 (.int (σ 0 25)) kiX8_blankAnd_X8 kfX8_blankAnd_190 rfl dX8_blankAnd_1 rfl rfl rfl (by decide) rfl ?_
  refine g_if_eq 7 9 C dX8_blankAnd_4 (by decide) rfl hF (fun hF => ?_) (fun hF => ?_)
  · refine g_aload_n 10 C dX8_blankAnd_9 rfl rfl rfl ?_
    refine g_aload_n 11 C dX8_blankAnd_10 rfl rfl rfl ?_
    obtain ⟨r1, q2, hF⟩ := sg_bndE hF
    refine g_callVi 14 C (w2 := (ww_X8 Y ad σ)) (As := []) (st := [.ref (ad 0)]) (n0 := 0) (ci := 9) (q0 := 0) [0, 1, 2, 3, 4, 5, 6, 7, 8, 9, 10, 11, 12] [] [0, 1, 2, 3, 4, 5, 6, 7, 8, 9, 10, 11, 12] (c_X8_sign l hZ (ad := ad) q2) gX8_blankAnd_X8_sign ⟨rfl, by decide +kernel, by decide +kernel, rfl⟩ rfl ⟨Nat.le_of_ble_eq_true rfl, Nat.le_of_ble_eq_true rfl⟩ rfl rfl ⟨rfl, rfl, rfl, by decide, rfl, rfl⟩ rfl rfl (Nat.le_of_ble_eq_true rfl) ⟨Nat.le_refl _, Nat.le_refl _⟩ dX8_blankAnd_11 rfl rfl ?_
    refine g_bipush 16 C 32 dX8_blankAnd_14 rfl (by decide) ?_
    refine g_icmp_eq 19 23 C dX8_blankAnd_16 (by decide) rfl hF (fun hF => ?_) (fun hF => ?_)
    · refine g_iconst 24 C 0 dX8_blankAnd_23 rfl (by decide) ?_
      refine g_lv (lv2 := [(0, .ref (ad 0)), (1, .int x1)]) [0, 1] rfl ?_
      exact K24  0 σ hF
    · refine g_iconst 20 C 1 dX8_blankAnd_19 rfl (by decide) ?_
      refine g_goto 24 C dX8_blankAnd_20 (by decide) ?_
      refine g_lv (lv2 := [(0, .ref (ad 0)), (1, .int x1)]) [0, 1] rfl ?_
      exact K24  1 σ hF
  · refine g_iconst 8 C 0 dX8_blankAnd_7 rfl (by decide) ?_
    obtain ⟨e1, e2⟩ := sg_pairE hF
    exact g_iret C hr rfl hQ hsz dX8_blankAnd_8 e1.symm (by rw [e2])
theorem kiX8_word_X8 : ∀ w ∈ u_ws RX8 TX8 27, w ∈ wsX8_word := by decide +kernel
theorem kfX8_word_190 : Cond.fieldLink RX8 190 "WeatherMinistryModel" "isWrong" "Z" ∈ wsX8_word := by decide +kernel
theorem kfX8_word_184 : Cond.fieldLink RX8 184 "WeatherMinistryModel" "here" "I" ∈ wsX8_word := by decide +kernel
theorem kfX8_word_41 : Cond.fieldLink RX8 41 "WeatherMinistryModel" "isLeft" "[I" ∈ wsX8_word := by decide +kernel
theorem kfX8_word_47 : Cond.fieldLink RX8 47 "WeatherMinistryModel" "wordAt" "[I" ∈ wsX8_word := by decide +kernel
theorem kfX8_word_44 : Cond.fieldLink RX8 44 "WeatherMinistryModel" "words" "[I" ∈ wsX8_word := by decide +kernel
def f_X8_word_L167 (κ25 : Int32 → Int32 → sg_S → Option (Int32 × sg_S)) : Nat → Int32 → Int32 → Int32 → sg_S → Option (Int32 × sg_S)
  | 0, _, _, _, _ => none
  | nz + 1, z1, z2, z4, σz => (if z4 < 8 then sg_grd (sg_in z4 8) ((if σz 10 z4.toNatClampNeg = 1 then sg_grd (sg_in z4 9) (sg_grd (sg_in (z4 + 1) 9) ((if (σz 12 z4.toNatClampNeg) + z1 = σz 12 (z4 + 1).toNatClampNeg then f_X8_word_L167 κ25 nz z1 z4 (z4 + 1) σz else f_X8_word_L167 κ25 nz z1 z2 (z4 + 1) σz))) else f_X8_word_L167 κ25 nz z1 z2 (z4 + 1) σz)) else κ25 z1 z2 σz)
def f_X8_word_J140 (κ25 : Int32 → Int32 → sg_S → Option (Int32 × sg_S)) (z1 : Int32) (z2 : Int32) (z3 : Int32) (t0 : Int32) (σz : sg_S) : Option (Int32 × sg_S) := sg_grd (sg_01 t0) (sg_let (sg_up σz 0 25 t0) (fun σ2 => (if z3 = 0 then sg_let (sg_up σ2 0 22 ((σ2 0 22) + 0)) (fun σ3 => f_X8_word_L167 κ25 1000 (z1 + 1) z2 0 σ3) else sg_let (sg_up σ2 0 22 ((σ2 0 22) + 1)) (fun σ7 => f_X8_word_L167 κ25 1000 (z1 + 1) z2 0 σ7))))
def f_X8_word_J103 (κ25 : Int32 → Int32 → sg_S → Option (Int32 × sg_S)) (κ41 : Int32 → Int32 → Int32 → Int32 → sg_S → Option (Int32 × sg_S)) (z1 : Int32) (z2 : Int32) (z3 : Int32) (z4 : Int32) (t0 : Int32) (t1 : Int32) (t2 : Int32) (σz : sg_S) : Option (Int32 × sg_S) := sg_grd (sg_in t2 8) (sg_let (sg_up σz 10 (t2.toNatClampNeg) (t1 &&& t0)) (fun σ12 => sg_grd (sg_in z4 8) ((if σ12 10 z4.toNatClampNeg = 1 then sg_let (z3 ||| 1) (fun y15 => κ41 z1 z2 y15 (z4 + 1) σ12) else sg_let (z3 ||| 0) (fun y14 => κ41 z1 z2 y14 (z4 + 1) σ12)))))
def f_X8_word_J102 (κ25 : Int32 → Int32 → sg_S → Option (Int32 × sg_S)) (κ41 : Int32 → Int32 → Int32 → Int32 → sg_S → Option (Int32 × sg_S)) (z1 : Int32) (z2 : Int32) (z3 : Int32) (z4 : Int32) (t0 : Int32) (t1 : Int32) (σz : sg_S) : Option (Int32 × sg_S) := f_X8_word_J103 κ25 κ41 z1 z2 z3 z4 0 t0 t1 σz
def f_X8_word_L41 (κ25 : Int32 → Int32 → sg_S → Option (Int32 × sg_S)) : Nat → Int32 → Int32 → Int32 → Int32 → sg_S → Option (Int32 × sg_S)
  | 0, _, _, _, _, _ => none
  | nz + 1, z1, z2, z3, z4, σz => (if z4 < 8 then sg_grd (sg_in z4 8) (sg_grd (sg_in z4 9) (sg_grd (sg_in (z4 + 1) 9) ((if (σz 12 z4.toNatClampNeg) + z1 < σz 12 (z4 + 1).toNatClampNeg then sg_grd (sg_in ((σz 12 z4.toNatClampNeg) + z1) 43) (sg_bnd (f_X8_sign  σz) (fun r17 => (if σz 11 ((σz 12 z4.toNatClampNeg) + z1).toNatClampNeg = r17 then f_X8_word_J103 κ25 (fun z1' z2' z3' z4' σz' => f_X8_word_L41 κ25 nz z1' z2' z3' z4' σz') z1 z2 z3 z4 1 (σz 10 z4.toNatClampNeg) z4 σz else f_X8_word_J102 κ25 (fun z1' z2' z3' z4' σz' => f_X8_word_L41 κ25 nz z1' z2' z3' z4' σz') z1 z2 z3 z4 (σz 10 z4.toNatClampNeg) z4 σz))) else f_X8_word_J102 κ25 (fun z1' z2' z3' z4' σz' => f_X8_word_L41 κ25 nz z1' z2' z3' z4' σz') z1 z2 z3 z4 (σz 10 z4.toNatClampNeg) z4 σz)))) else (if z3 = 0 then f_X8_word_J140 κ25 z1 z2 z3 1 σz else f_X8_word_J140 κ25 z1 z2 z3 0 σz))
def f_X8_word_L25 : Nat → Int32 → Int32 → sg_S → Option (Int32 × sg_S)
  | 0, _, _, _ => none
  | nz + 1, z1, z2, σz => (if z2 < 0 then (if σz 0 25 = 0 then f_X8_word_L41 (fun z1' z2' σz' => f_X8_word_L25 nz z1' z2' σz') 1000 z1 z2 0 0 σz else some (z2, σz)) else some (z2, σz))
def f_X8_word_L2 : Nat → Int32 → sg_S → Option (Int32 × sg_S)
  | 0, _, _ => none
  | nz + 1, z1, σz => (if z1 < 8 then sg_grd (sg_in z1 8) (sg_let (sg_up σz 10 (z1.toNatClampNeg) 1) (fun σ20 => f_X8_word_L2 nz (z1 + 1) σ20)) else f_X8_word_L25 1000 0 (-1) σz)
def f_X8_word  (σ : sg_S) : Option (Int32 × sg_S) := f_X8_word_L2 1000 0 σ
set_option maxHeartbeats 4000000 in
set_option maxRecDepth 100000 in
theorem c_X8_word (l : Launch) {D : va_G} {Y : Nat → ClassId} {Z : (Nat → Prop) → State → Heap → Prop} (hZ : sg_Zok Z) {ad : Nat → Nat} {σ : sg_S} {σ' : sg_S} {r : Int32} (hF : f_X8_word  σ = some (r, σ')) : sg_MI l yX8_word wsX8_word 1 20 D Y Z [.ref (ad 0)] (ww_X8 Y ad σ) r (ww_X8 Y ad σ') := by
  intro sz
  refine sg_enter (own := RX8) (maxL := 5) (ret := (some .int)) (cc := cX8_word) (by decide +kernel) rfl rfl (Nat.le_of_ble_eq_true rfl) hZ ?_
  intro p e s m args below meth c C hr Q hQ hsz
  refine g_lv (lv2 := [(0, .ref (ad 0))]) [0] rfl ?_
  have K167 : ∀ (κ25 : Int32 → Int32 → sg_S → Option (Int32 × sg_S)), (∀ (z1 : Int32) (z2 : Int32) (σz : sg_S), κ25 z1 z2 σz = some (r, σ') → sg_G p l e ({ frames := 1, cells := 0, slots := 0, locals := 20 } : Room) s m args below meth c D (va_A (ww_X8 Y ad σ) s.heap.size) 5 0 0 Q 25 [(0, .ref (ad 0)), (1, .int z1), (2, .int z2)] [] (ww_X8 Y ad σz)) → ∀ (nz : Nat), ∀ (z1 : Int32) (z2 : Int32) (z4 : Int32) (σz : sg_S), f_X8_word_L167 κ25 nz z1 z2 z4 σz = some (r, σ') → sg_G p l e ({ frames := 1, cells := 0, slots := 0, locals := 20 } : Room) s m args below meth c D (va_A (ww_X8 Y ad σ) s.heap.size) 5 0 0 Q 167 [(0, .ref (ad 0)), (1, .int z1), (2, .int z2), (4, .int z4)] [] (ww_X8 Y ad σz) := by
    intro κ25 hκ25 nz
    induction nz with
    | zero =>
      intro z1 z2 z4 σz hF
      rw [f_X8_word_L167.eq_1] at hF
      exact nomatch hF
    | succ nz ih =>
      intro z1 z2 z4 σz hF
      rw [f_X8_word_L167.eq_2] at hF
      refine g_iload 169 C dX8_word_167 rfl rfl ?_
      refine g_bipush 171 C 8 dX8_word_169 rfl (by decide) ?_
      refine g_icmp_ge 174 219 C dX8_word_171 (by decide) rfl hF (fun hF => ?_) (fun hF => ?_)
      · refine g_goto 25 C dX8_word_219 (by decide) ?_
        refine g_lv (lv2 := [(0, .ref (ad 0)), (1, .int z1), (2, .int z2)]) [0, 1, 2] rfl ?_
        exact hκ25 z1 z2 σz hF
      · refine g_aload_n 175 C dX8_word_174 rfl rfl rfl ?_
        refine g_get 178 C (own := RX8) (C1 := RX8) (T := TX8) 0 18 (.ref (ad 10)) kiX8_word_X8 kfX8_word_41 rfl dX8_word_175 rfl rfl rfl (by decide) rfl ?_
        refine g_iload 180 C dX8_word_178 rfl rfl ?_
        obtain ⟨h4, hF⟩ := sg_grdE hF
        refine g_ialdc 181 C 10 (z4.toNatClampNeg) (σz 10 z4.toNatClampNeg) dX8_word_180 rfl rfl rfl h4 rfl ?_
        refine g_iconst 182 C 1 dX8_word_181 rfl (by decide) ?_
        refine g_icmp_ne 185 211 C dX8_word_182 (by decide) rfl hF (fun hF => ?_) (fun hF => ?_)
        · refine g_iload_n 212 C dX8_word_211 rfl rfl rfl ?_
          refine g_istore_n 213 C [(2, .int z2), (0, .ref (ad 0)), (1, .int z1), (4, .int z4)] dX8_word_212 rfl rfl (by decide) rfl ?_
          refine g_iinc 216 C 3 (z4 + 1) [(4, .int (z4 + 1)), (2, .int z2), (0, .ref (ad 0)), (1, .int z1)] dX8_word_213 rfl rfl rfl (by decide) rfl ?_
          refine g_goto 167 C dX8_word_216 (by decide) ?_
          refine g_lv (lv2 := [(0, .ref (ad 0)), (1, .int z1), (2, .int z2), (4, .int (z4 + 1))]) [2, 3, 1, 0] rfl ?_
          exact ih z1 z2 (z4 + 1) σz hF
        · refine g_aload_n 186 C dX8_word_185 rfl rfl rfl ?_
          refine g_get 189 C (own := RX8) (C1 := RX8) (T := TX8) 0 20 (.ref (ad 12)) kiX8_word_X8 kfX8_word_47 rfl dX8_word_186 rfl rfl rfl (by decide) rfl ?_
          refine g_iload 191 C dX8_word_189 rfl rfl ?_
          obtain ⟨h5, hF⟩ := sg_grdE hF
          refine g_ialdc 192 C 12 (z4.toNatClampNeg) (σz 12 z4.toNatClampNeg) dX8_word_191 rfl rfl rfl h5 rfl ?_
          refine g_iload_n 193 C dX8_word_192 rfl rfl rfl ?_
          refine g_iadd 194 C dX8_word_193 rfl ?_
          refine g_aload_n 195 C dX8_word_194 rfl rfl rfl ?_
          refine g_get 198 C (own := RX8) (C1 := RX8) (T := TX8) 0 20 (.ref (ad 12)) kiX8_word_X8 kfX8_word_47 rfl dX8_word_195 rfl rfl rfl (by decide) rfl ?_
          refine g_iload 200 C dX8_word_198 rfl rfl ?_
          refine g_iconst 201 C 1 dX8_word_200 rfl (by decide) ?_
          refine g_iadd 202 C dX8_word_201 rfl ?_
          obtain ⟨h6, hF⟩ := sg_grdE hF
          refine g_ialdc 203 C 12 ((z4 + 1).toNatClampNeg) (σz 12 (z4 + 1).toNatClampNeg) dX8_word_202 rfl rfl rfl h6 rfl ?_
          refine g_icmp_ne 206 211 C dX8_word_203 (by decide) rfl hF (fun hF => ?_) (fun hF => ?_)
          · refine g_iload_n 212 C dX8_word_211 rfl rfl rfl ?_
            refine g_istore_n 213 C [(2, .int z2), (0, .ref (ad 0)), (1, .int z1), (4, .int z4)] dX8_word_212 rfl rfl (by decide) rfl ?_
            refine g_iinc 216 C 3 (z4 + 1) [(4, .int (z4 + 1)), (2, .int z2), (0, .ref (ad 0)), (1, .int z1)] dX8_word_213 rfl rfl rfl (by decide) rfl ?_
            refine g_goto 167 C dX8_word_216 (by decide) ?_
            refine g_lv (lv2 := [(0, .ref (ad 0)), (1, .int z1), (2, .int z2), (4, .int (z4 + 1))]) [2, 3, 1, 0] rfl ?_
            exact ih z1 z2 (z4 + 1) σz hF
          · refine g_iload 208 C dX8_word_206 rfl rfl ?_
            refine g_goto 212 C dX8_word_208 (by decide) ?_
            refine g_istore_n 213 C [(2, .int z4), (0, .ref (ad 0)), (1, .int z1), (4, .int z4)] dX8_word_212 rfl rfl (by decide) rfl ?_
            refine g_iinc 216 C 3 (z4 + 1) [(4, .int (z4 + 1)), (2, .int z4), (0, .ref (ad 0)), (1, .int z1)] dX8_word_213 rfl rfl rfl (by decide) rfl ?_
            refine g_goto 167 C dX8_word_216 (by decide) ?_
            refine g_lv (lv2 := [(0, .ref (ad 0)), (1, .int z1), (2, .int z4), (4, .int (z4 + 1))]) [2, 3, 1, 0] rfl ?_
            exact ih z1 z4 (z4 + 1) σz hF
  have K140 : ∀ (κ25 : Int32 → Int32 → sg_S → Option (Int32 × sg_S)), (∀ (z1 : Int32) (z2 : Int32) (σz : sg_S), κ25 z1 z2 σz = some (r, σ') → sg_G p l e ({ frames := 1, cells := 0, slots := 0, locals := 20 } : Room) s m args below meth c D (va_A (ww_X8 Y ad σ) s.heap.size) 5 0 0 Q 25 [(0, .ref (ad 0)), (1, .int z1), (2, .int z2)] [] (ww_X8 Y ad σz)) → ∀ (z1 : Int32) (z2 : Int32) (z3 : Int32) (t0 : Int32) (σz : sg_S), f_X8_word_J140 κ25 z1 z2 z3 t0 σz = some (r, σ') → sg_G p l e ({ frames := 1, cells := 0, slots := 0, locals := 20 } : Room) s m args below meth c D (va_A (ww_X8 Y ad σ) s.heap.size) 5 0 0 Q 140 [(0, .ref (ad 0)), (1, .int z1), (2, .int z2), (3, .int z3)] [.int t0, .ref (ad 0)] (ww_X8 Y ad σz) := by
    intro κ25 hκ25 z1 z2 z3 t0 σz hF
    rw [f_X8_word_J140] at hF
    obtain ⟨h1, hF⟩ := sg_grdE hF
    obtain ⟨σ2, eσ2, hF⟩ := sg_letE hF
    refine g_put 143 C (own := RX8) (C1 := RX8) (T := TX8) (w2 := (ww_X8 Y ad σ2)) 0 25 tyX8 tyX8_ok nmX8 kiX8_word_X8 kfX8_word_190 rfl rfl (ty := .boolean) (by decide) (sg_01n h1).1 (sg_01n h1).2 (sg_blt rfl) dX8_word_140 rfl rfl rfl (by decide) (by rw [eσ2]; rfl) ?_
    refine g_aload_n 144 C dX8_word_143 rfl rfl rfl ?_
    refine g_dup 145 C dX8_word_144 rfl rfl ?_
    refine g_get 148 C (own := RX8) (C1 := RX8) (T := TX8) 0 22 (.int (σ2 0 22)) kiX8_word_X8 kfX8_word_184 rfl dX8_word_145 rfl rfl rfl (by decide) rfl ?_
    refine g_iload_n 149 C dX8_word_148 rfl rfl rfl ?_
    refine g_if_eq 152 156 C dX8_word_149 (by decide) rfl hF (fun hF => ?_) (fun hF => ?_)
    · refine g_iconst 157 C 0 dX8_word_156 rfl (by decide) ?_
      refine g_iadd 158 C dX8_word_157 rfl ?_
      obtain ⟨σ3, eσ3, hF⟩ := sg_letE hF
      refine g_put 161 C (own := RX8) (C1 := RX8) (T := TX8) (w2 := (ww_X8 Y ad σ3)) 0 22 tyX8 tyX8_ok nmX8 kiX8_word_X8 kfX8_word_184 rfl rfl (ty := .int) (by decide) rfl rfl (sg_blt rfl) dX8_word_158 rfl rfl rfl (by decide) (by rw [eσ3]; rfl) ?_
      refine g_iinc 164 C 1 (z1 + 1) [(1, .int (z1 + 1)), (0, .ref (ad 0)), (2, .int z2), (3, .int z3)] dX8_word_161 rfl rfl rfl (by decide) rfl ?_
      refine g_iconst 165 C 0 dX8_word_164 rfl (by decide) ?_
      refine g_istore 167 C [(4, .int 0), (1, .int (z1 + 1)), (0, .ref (ad 0)), (2, .int z2), (3, .int z3)] dX8_word_165 rfl (by decide) rfl ?_
      refine g_lv (lv2 := [(0, .ref (ad 0)), (1, .int (z1 + 1)), (2, .int z2), (4, .int 0)]) [2, 1, 3, 0] rfl ?_
      exact K167 κ25 hκ25 1000 (z1 + 1) z2 0 σ3 hF
    · refine g_iconst 153 C 1 dX8_word_152 rfl (by decide) ?_
      refine g_goto 157 C dX8_word_153 (by decide) ?_
      refine g_iadd 158 C dX8_word_157 rfl ?_
      obtain ⟨σ7, eσ7, hF⟩ := sg_letE hF
      refine g_put 161 C (own := RX8) (C1 := RX8) (T := TX8) (w2 := (ww_X8 Y ad σ7)) 0 22 tyX8 tyX8_ok nmX8 kiX8_word_X8 kfX8_word_184 rfl rfl (ty := .int) (by decide) rfl rfl (sg_blt rfl) dX8_word_158 rfl rfl rfl (by decide) (by rw [eσ7]; rfl) ?_
      refine g_iinc 164 C 1 (z1 + 1) [(1, .int (z1 + 1)), (0, .ref (ad 0)), (2, .int z2), (3, .int z3)] dX8_word_161 rfl rfl rfl (by decide) rfl ?_
      refine g_iconst 165 C 0 dX8_word_164 rfl (by decide) ?_
      refine g_istore 167 C [(4, .int 0), (1, .int (z1 + 1)), (0, .ref (ad 0)), (2, .int z2), (3, .int z3)] dX8_word_165 rfl (by decide) rfl ?_
      refine g_lv (lv2 := [(0, .ref (ad 0)), (1, .int (z1 + 1)), (2, .int z2), (4, .int 0)]) [2, 1, 3, 0] rfl ?_
      exact K167 κ25 hκ25 1000 (z1 + 1) z2 0 σ7 hF
  have K103 : ∀ (κ25 : Int32 → Int32 → sg_S → Option (Int32 × sg_S)), (∀ (z1 : Int32) (z2 : Int32) (σz : sg_S), κ25 z1 z2 σz = some (r, σ') → sg_G p l e ({ frames := 1, cells := 0, slots := 0, locals := 20 } : Room) s m args below meth c D (va_A (ww_X8 Y ad σ) s.heap.size) 5 0 0 Q 25 [(0, .ref (ad 0)), (1, .int z1), (2, .int z2)] [] (ww_X8 Y ad σz)) → ∀ (κ41 : Int32 → Int32 → Int32 → Int32 → sg_S → Option (Int32 × sg_S)), (∀ (z1 : Int32) (z2 : Int32) (z3 : Int32) (z4 : Int32) (σz : sg_S), κ41 z1 z2 z3 z4 σz = some (r, σ') → sg_G p l e ({ frames := 1, cells := 0, slots := 0, locals := 20 } : Room) s m args below meth c D (va_A (ww_X8 Y ad σ) s.heap.size) 5 0 0 Q 41 [(0, .ref (ad 0)), (1, .int z1), (2, .int z2), (3, .int z3), (4, .int z4)] [] (ww_X8 Y ad σz)) → ∀ (z1 : Int32) (z2 : Int32) (z3 : Int32) (z4 : Int32) (t0 : Int32) (t1 : Int32) (t2 : Int32) (σz : sg_S), f_X8_word_J103 κ25 κ41 z1 z2 z3 z4 t0 t1 t2 σz = some (r, σ') → sg_G p l e ({ frames := 1, cells := 0, slots := 0, locals := 20 } : Room) s m args below meth c D (va_A (ww_X8 Y ad σ) s.heap.size) 5 0 0 Q 103 [(0, .ref (ad 0)), (1, .int z1), (2, .int z2), (3, .int z3), (4, .int z4)] [.int t0, .int t1, .int t2, .ref (ad 10)] (ww_X8 Y ad σz) := by
    intro κ25 hκ25 κ41 hκ41 z1 z2 z3 z4 t0 t1 t2 σz hF
    rw [f_X8_word_J103] at hF
    refine g_iand 104 C dX8_word_103 rfl ?_
    obtain ⟨h11, hF⟩ := sg_grdE hF
    obtain ⟨σ12, eσ12, hF⟩ := sg_letE hF
    refine g_iast 105 C (w2 := (ww_X8 Y ad σ12)) 10 dX8_word_104 rfl rfl h11 (by rw [eσ12]; rfl) ?_
    refine g_iload_n 106 C dX8_word_105 rfl rfl rfl ?_
    refine g_aload_n 107 C dX8_word_106 rfl rfl rfl ?_
    refine g_get 110 C (own := RX8) (C1 := RX8) (T := TX8) 0 18 (.ref (ad 10)) kiX8_word_X8 kfX8_word_41 rfl dX8_word_107 rfl rfl rfl (by decide) rfl ?_
    refine g_iload 112 C dX8_word_110 rfl rfl ?_
    obtain ⟨h13, hF⟩ := sg_grdE hF
    refine g_ialdc 113 C 10 (z4.toNatClampNeg) (σ12 10 z4.toNatClampNeg) dX8_word_112 rfl rfl rfl h13 rfl ?_
    refine g_iconst 114 C 1 dX8_word_113 rfl (by decide) ?_
    refine g_icmp_ne 117 121 C dX8_word_114 (by decide) rfl hF (fun hF => ?_) (fun hF => ?_)
    · refine g_iconst 122 C 0 dX8_word_121 rfl (by decide) ?_
      refine g_ior 123 C dX8_word_122 rfl ?_
      obtain ⟨y14, ey14, hF⟩ := sg_letE hF
      refine g_top ey14 ?_
      refine g_istore_n 124 C [(3, .int y14), (0, .ref (ad 0)), (1, .int z1), (2, .int z2), (4, .int z4)] dX8_word_123 rfl rfl (by decide) rfl ?_
      refine g_iinc 127 C 4 (z4 + 1) [(4, .int (z4 + 1)), (3, .int y14), (0, .ref (ad 0)), (1, .int z1), (2, .int z2)] dX8_word_124 rfl rfl rfl (by decide) rfl ?_
      refine g_goto 41 C dX8_word_127 (by decide) ?_
      refine g_lv (lv2 := [(0, .ref (ad 0)), (1, .int z1), (2, .int z2), (3, .int y14), (4, .int (z4 + 1))]) [2, 3, 4, 1, 0] rfl ?_
      exact hκ41 z1 z2 y14 (z4 + 1) σ12 hF
    · refine g_iconst 118 C 1 dX8_word_117 rfl (by decide) ?_
      refine g_goto 122 C dX8_word_118 (by decide) ?_
      refine g_ior 123 C dX8_word_122 rfl ?_
      obtain ⟨y15, ey15, hF⟩ := sg_letE hF
      refine g_top ey15 ?_
      refine g_istore_n 124 C [(3, .int y15), (0, .ref (ad 0)), (1, .int z1), (2, .int z2), (4, .int z4)] dX8_word_123 rfl rfl (by decide) rfl ?_
      refine g_iinc 127 C 4 (z4 + 1) [(4, .int (z4 + 1)), (3, .int y15), (0, .ref (ad 0)), (1, .int z1), (2, .int z2)] dX8_word_124 rfl rfl rfl (by decide) rfl ?_
      refine g_goto 41 C dX8_word_127 (by decide) ?_
      refine g_lv (lv2 := [(0, .ref (ad 0)), (1, .int z1), (2, .int z2), (3, .int y15), (4, .int (z4 + 1))]) [2, 3, 4, 1, 0] rfl ?_
      exact hκ41 z1 z2 y15 (z4 + 1) σ12 hF
  have K102 : ∀ (κ25 : Int32 → Int32 → sg_S → Option (Int32 × sg_S)), (∀ (z1 : Int32) (z2 : Int32) (σz : sg_S), κ25 z1 z2 σz = some (r, σ') → sg_G p l e ({ frames := 1, cells := 0, slots := 0, locals := 20 } : Room) s m args below meth c D (va_A (ww_X8 Y ad σ) s.heap.size) 5 0 0 Q 25 [(0, .ref (ad 0)), (1, .int z1), (2, .int z2)] [] (ww_X8 Y ad σz)) → ∀ (κ41 : Int32 → Int32 → Int32 → Int32 → sg_S → Option (Int32 × sg_S)), (∀ (z1 : Int32) (z2 : Int32) (z3 : Int32) (z4 : Int32) (σz : sg_S), κ41 z1 z2 z3 z4 σz = some (r, σ') → sg_G p l e ({ frames := 1, cells := 0, slots := 0, locals := 20 } : Room) s m args below meth c D (va_A (ww_X8 Y ad σ) s.heap.size) 5 0 0 Q 41 [(0, .ref (ad 0)), (1, .int z1), (2, .int z2), (3, .int z3), (4, .int z4)] [] (ww_X8 Y ad σz)) → ∀ (z1 : Int32) (z2 : Int32) (z3 : Int32) (z4 : Int32) (t0 : Int32) (t1 : Int32) (σz : sg_S), f_X8_word_J102 κ25 κ41 z1 z2 z3 z4 t0 t1 σz = some (r, σ') → sg_G p l e ({ frames := 1, cells := 0, slots := 0, locals := 20 } : Room) s m args below meth c D (va_A (ww_X8 Y ad σ) s.heap.size) 5 0 0 Q 102 [(0, .ref (ad 0)), (1, .int z1), (2, .int z2), (3, .int z3), (4, .int z4)] [.int t0, .int t1, .ref (ad 10)] (ww_X8 Y ad σz) := by
    intro κ25 hκ25 κ41 hκ41 z1 z2 z3 z4 t0 t1 σz hF
    rw [f_X8_word_J102] at hF
    refine g_iconst 103 C 0 dX8_word_102 rfl (by decide) ?_
    refine g_lv (lv2 := [(0, .ref (ad 0)), (1, .int z1), (2, .int z2), (3, .int z3), (4, .int z4)]) [0, 1, 2, 3, 4] rfl ?_
    exact K103 κ25 hκ25 κ41 hκ41 z1 z2 z3 z4 0 t0 t1 σz hF
  have K41 : ∀ (κ25 : Int32 → Int32 → sg_S → Option (Int32 × sg_S)), (∀ (z1 : Int32) (z2 : Int32) (σz : sg_S), κ25 z1 z2 σz = some (r, σ') → sg_G p l e ({ frames := 1, cells := 0, slots := 0, locals := 20 } : Room) s m args below meth c D (va_A (ww_X8 Y ad σ) s.heap.size) 5 0 0 Q 25 [(0, .ref (ad 0)), (1, .int z1), (2, .int z2)] [] (ww_X8 Y ad σz)) → ∀ (nz : Nat), ∀ (z1 : Int32) (z2 : Int32) (z3 : Int32) (z4 : Int32) (σz : sg_S), f_X8_word_L41 κ25 nz z1 z2 z3 z4 σz = some (r, σ') → sg_G p l e ({ frames := 1, cells := 0, slots := 0, locals := 20 } : Room) s m args below meth c D (va_A (ww_X8 Y ad σ) s.heap.size) 5 0 0 Q 41 [(0, .ref (ad 0)), (1, .int z1), (2, .int z2), (3, .int z3), (4, .int z4)] [] (ww_X8 Y ad σz) := by
    intro κ25 hκ25 nz
    induction nz with
    | zero =>
      intro z1 z2 z3 z4 σz hF
      rw [f_X8_word_L41.eq_1] at hF
      exact nomatch hF
    | succ nz ih =>
      intro z1 z2 z3 z4 σz hF
      rw [f_X8_word_L41.eq_2] at hF
      refine g_iload 43 C dX8_word_41 rfl rfl ?_
      refine g_bipush 45 C 8 dX8_word_43 rfl (by decide) ?_
      refine g_icmp_ge 48 130 C dX8_word_45 (by decide) rfl hF (fun hF => ?_) (fun hF => ?_)
      · refine g_aload_n 131 C dX8_word_130 rfl rfl rfl ?_
        refine g_iload_n 132 C dX8_word_131 rfl rfl rfl ?_
        refine g_if_ne 135 139 C dX8_word_132 (by decide) rfl hF (fun hF => ?_) (fun hF => ?_)
        · refine g_iconst 140 C 0 dX8_word_139 rfl (by decide) ?_
          refine g_lv (lv2 := [(0, .ref (ad 0)), (1, .int z1), (2, .int z2), (3, .int z3)]) [0, 1, 2, 3] rfl ?_
          exact K140 κ25 hκ25 z1 z2 z3 0 σz hF
        · refine g_iconst 136 C 1 dX8_word_135 rfl (by decide) ?_
          refine g_goto 140 C dX8_word_136 (by decide) ?_
          refine g_lv (lv2 := [(0, .ref (ad 0)), (1, .int z1), (2, .int z2), (3, .int z3)]) [0, 1, 2, 3] rfl ?_
          exact K140 κ25 hκ25 z1 z2 z3 1 σz hF
      · refine g_aload_n 49 C dX8_word_48 rfl rfl rfl ?_
        refine g_get 52 C (own := RX8) (C1 := RX8) (T := TX8) 0 18 (.ref (ad 10)) kiX8_word_X8 kfX8_word_41 rfl dX8_word_49 rfl rfl rfl (by decide) rfl ?_
        refine g_iload 54 C dX8_word_52 rfl rfl ?_
        refine g_dup2 55 C dX8_word_54 rfl rfl rfl ?_
        obtain ⟨h8, hF⟩ := sg_grdE hF
        refine g_ialdc 56 C 10 (z4.toNatClampNeg) (σz 10 z4.toNatClampNeg) dX8_word_55 rfl rfl rfl h8 rfl ?_
        refine g_aload_n 57 C dX8_word_56 rfl rfl rfl ?_
        refine g_get 60 C (own := RX8) (C1 := RX8) (T := TX8) 0 20 (.ref (ad 12)) kiX8_word_X8 kfX8_word_47 rfl dX8_word_57 rfl rfl rfl (by decide) rfl ?_
        refine g_iload 62 C dX8_word_60 rfl rfl ?_
        obtain ⟨h9, hF⟩ := sg_grdE hF
        refine g_ialdc 63 C 12 (z4.toNatClampNeg) (σz 12 z4.toNatClampNeg) dX8_word_62 rfl rfl rfl h9 rfl ?_
        refine g_iload_n 64 C dX8_word_63 rfl rfl rfl ?_
        refine g_iadd 65 C dX8_word_64 rfl ?_
        refine g_aload_n 66 C dX8_word_65 rfl rfl rfl ?_
        refine g_get 69 C (own := RX8) (C1 := RX8) (T := TX8) 0 20 (.ref (ad 12)) kiX8_word_X8 kfX8_word_47 rfl dX8_word_66 rfl rfl rfl (by decide) rfl ?_
        refine g_iload 71 C dX8_word_69 rfl rfl ?_
        refine g_iconst 72 C 1 dX8_word_71 rfl (by decide) ?_
        refine g_iadd 73 C dX8_word_72 rfl ?_
        obtain ⟨h10, hF⟩ := sg_grdE hF
        refine g_ialdc 74 C 12 ((z4 + 1).toNatClampNeg) (σz 12 (z4 + 1).toNatClampNeg) dX8_word_73 rfl rfl rfl h10 rfl ?_
        refine g_icmp_ge 77 102 C dX8_word_74 (by decide) rfl hF (fun hF => ?_) (fun hF => ?_)
        · refine g_lv (lv2 := [(0, .ref (ad 0)), (1, .int z1), (2, .int z2), (3, .int z3), (4, .int z4)]) [0, 1, 2, 3, 4] rfl ?_
          exact K102 κ25 hκ25 (fun z1' z2' z3' z4' σz' => f_X8_word_L41 κ25 nz z1' z2' z3' z4' σz') ih z1 z2 z3 z4 (σz 10 z4.toNatClampNeg) z4 σz hF
        · refine g_aload_n 78 C dX8_word_77 rfl rfl rfl ?_
          refine g_get 81 C (own := RX8) (C1 := RX8) (T := TX8) 0 19 (.ref (ad 11)) kiX8_word_X8 kfX8_word_44 rfl dX8_word_78 rfl rfl rfl (by decide) rfl ?_
          refine g_aload_n 82 C dX8_word_81 rfl rfl rfl ?_
          refine g_get 85 C (own := RX8) (C1 := RX8) (T := TX8) 0 20 (.ref (ad 12)) kiX8_word_X8 kfX8_word_47 rfl dX8_word_82 rfl rfl rfl (by decide) rfl ?_
          refine g_iload 87 C dX8_word_85 rfl rfl ?_
          refine g_ialdc 88 C 12 (z4.toNatClampNeg) (σz 12 z4.toNatClampNeg) dX8_word_87 rfl rfl rfl h9 rfl ?_
          refine g_iload_n 89 C dX8_word_88 rfl rfl rfl ?_
          refine g_iadd 90 C dX8_word_89 rfl ?_
          obtain ⟨h16, hF⟩ := sg_grdE hF
          refine g_ialdc 91 C 11 (((σz 12 z4.toNatClampNeg) + z1).toNatClampNeg) (σz 11 ((σz 12 z4.toNatClampNeg) + z1).toNatClampNeg) dX8_word_90 rfl rfl rfl h16 rfl ?_
          refine g_aload_n 92 C dX8_word_91 rfl rfl rfl ?_
          obtain ⟨r17, q18, hF⟩ := sg_bndE hF
          refine g_callVi 95 C (w2 := (ww_X8 Y ad σz)) (As := []) (st := [.int (σz 11 ((σz 12 z4.toNatClampNeg) + z1).toNatClampNeg), .int (σz 10 z4.toNatClampNeg), .int z4, .ref (ad 10)]) (n0 := 0) (ci := 9) (q0 := 0) [0, 1, 2, 3, 4, 5, 6, 7, 8, 9, 10, 11, 12] [] [0, 1, 2, 3, 4, 5, 6, 7, 8, 9, 10, 11, 12] (c_X8_sign l hZ (ad := ad) q18) gX8_word_X8_sign ⟨rfl, by decide +kernel, by decide +kernel, rfl⟩ rfl ⟨Nat.le_of_ble_eq_true rfl, Nat.le_of_ble_eq_true rfl⟩ rfl rfl ⟨rfl, rfl, rfl, by decide, rfl, rfl⟩ rfl rfl (Nat.le_of_ble_eq_true rfl) ⟨Nat.le_refl _, Nat.le_refl _⟩ dX8_word_92 rfl rfl ?_
          refine g_icmp_ne 98 102 C dX8_word_95 (by decide) rfl hF (fun hF => ?_) (fun hF => ?_)
          · refine g_lv (lv2 := [(0, .ref (ad 0)), (1, .int z1), (2, .int z2), (3, .int z3), (4, .int z4)]) [0, 1, 2, 3, 4] rfl ?_
            exact K102 κ25 hκ25 (fun z1' z2' z3' z4' σz' => f_X8_word_L41 κ25 nz z1' z2' z3' z4' σz') ih z1 z2 z3 z4 (σz 10 z4.toNatClampNeg) z4 σz hF
          · refine g_iconst 99 C 1 dX8_word_98 rfl (by decide) ?_
            refine g_goto 103 C dX8_word_99 (by decide) ?_
            refine g_lv (lv2 := [(0, .ref (ad 0)), (1, .int z1), (2, .int z2), (3, .int z3), (4, .int z4)]) [0, 1, 2, 3, 4] rfl ?_
            exact K103 κ25 hκ25 (fun z1' z2' z3' z4' σz' => f_X8_word_L41 κ25 nz z1' z2' z3' z4' σz') ih z1 z2 z3 z4 1 (σz 10 z4.toNatClampNeg) z4 σz hF
  have K25 : ∀ (nz : Nat), ∀ (z1 : Int32) (z2 : Int32) (σz : sg_S), f_X8_word_L25 nz z1 z2 σz = some (r, σ') → sg_G p l e ({ frames := 1, cells := 0, slots := 0, locals := 20 } : Room) s m args below meth c D (va_A (ww_X8 Y ad σ) s.heap.size) 5 0 0 Q 25 [(0, .ref (ad 0)), (1, .int z1), (2, .int z2)] [] (ww_X8 Y ad σz) := by
    intro nz
    induction nz with
    | zero =>
      intro z1 z2 σz hF
      rw [f_X8_word_L25.eq_1] at hF
      exact nomatch hF
    | succ nz ih =>
      intro z1 z2 σz hF
      rw [f_X8_word_L25.eq_2] at hF
      refine g_iload_n 26 C dX8_word_25 rfl rfl rfl ?_
      refine g_if_ge 29 222 C dX8_word_26 (by decide) rfl hF (fun hF => ?_) (fun hF => ?_)
      · refine g_iload_n 223 C dX8_word_222 rfl rfl rfl ?_
        obtain ⟨e1, e2⟩ := sg_pairE hF
        exact g_iret C hr rfl hQ hsz dX8_word_223 e1.symm (by rw [e2])
      · refine g_aload_n 30 C dX8_word_29 rfl rfl rfl ?_
        refine g_get 33 C (own := RX8) (C1 := RX8) (T := TX8) 0 25 (.int (σz 0 25)) kiX8_word_X8 kfX8_word_190 rfl dX8_word_30 rfl rfl rfl (by decide) rfl ?_
        refine g_if_ne 36 222 C dX8_word_33 (by decide) rfl hF (fun hF => ?_) (fun hF => ?_)
        · refine g_iload_n 223 C dX8_word_222 rfl rfl rfl ?_
          obtain ⟨e1, e2⟩ := sg_pairE hF
          exact g_iret C hr rfl hQ hsz dX8_word_223 e1.symm (by rw [e2])
        · refine g_iconst 37 C 0 dX8_word_36 rfl (by decide) ?_
          refine g_istore_n 38 C [(3, .int 0), (0, .ref (ad 0)), (1, .int z1), (2, .int z2)] dX8_word_37 rfl rfl (by decide) rfl ?_
          refine g_iconst 39 C 0 dX8_word_38 rfl (by decide) ?_
          refine g_istore 41 C [(4, .int 0), (3, .int 0), (0, .ref (ad 0)), (1, .int z1), (2, .int z2)] dX8_word_39 rfl (by decide) rfl ?_
          refine g_lv (lv2 := [(0, .ref (ad 0)), (1, .int z1), (2, .int z2), (3, .int 0), (4, .int 0)]) [2, 3, 4, 1, 0] rfl ?_
          exact K41 (fun z1' z2' σz' => f_X8_word_L25 nz z1' z2' σz') ih 1000 z1 z2 0 0 σz hF
  have K2 : ∀ (nz : Nat), ∀ (z1 : Int32) (σz : sg_S), f_X8_word_L2 nz z1 σz = some (r, σ') → sg_G p l e ({ frames := 1, cells := 0, slots := 0, locals := 20 } : Room) s m args below meth c D (va_A (ww_X8 Y ad σ) s.heap.size) 5 0 0 Q 2 [(0, .ref (ad 0)), (1, .int z1)] [] (ww_X8 Y ad σz) := by
    intro nz
    induction nz with
    | zero =>
      intro z1 σz hF
      rw [f_X8_word_L2.eq_1] at hF
      exact nomatch hF
    | succ nz ih =>
      intro z1 σz hF
      rw [f_X8_word_L2.eq_2] at hF
      refine g_iload_n 3 C dX8_word_2 rfl rfl rfl ?_
      refine g_bipush 5 C 8 dX8_word_3 rfl (by decide) ?_
      refine g_icmp_ge 8 21 C dX8_word_5 (by decide) rfl hF (fun hF => ?_) (fun hF => ?_)
      · refine g_iconst 22 C 0 dX8_word_21 rfl (by decide) ?_
        refine g_istore_n 23 C [(1, .int 0), (0, .ref (ad 0))] dX8_word_22 rfl rfl (by decide) rfl ?_
        refine g_iconst 24 C (-1) dX8_word_23 rfl (by decide) ?_
        refine g_istore_n 25 C [(2, .int (-1)), (1, .int 0), (0, .ref (ad 0))] dX8_word_24 rfl rfl (by decide) rfl ?_
        refine g_lv (lv2 := [(0, .ref (ad 0)), (1, .int 0), (2, .int (-1))]) [2, 1, 0] rfl ?_
        exact K25  1000 0 (-1) σz hF
      · refine g_aload_n 9 C dX8_word_8 rfl rfl rfl ?_
        refine g_get 12 C (own := RX8) (C1 := RX8) (T := TX8) 0 18 (.ref (ad 10)) kiX8_word_X8 kfX8_word_41 rfl dX8_word_9 rfl rfl rfl (by decide) rfl ?_
        refine g_iload_n 13 C dX8_word_12 rfl rfl rfl ?_
        refine g_iconst 14 C 1 dX8_word_13 rfl (by decide) ?_
        obtain ⟨h19, hF⟩ := sg_grdE hF
        obtain ⟨σ20, eσ20, hF⟩ := sg_letE hF
        refine g_iast 15 C (w2 := (ww_X8 Y ad σ20)) 10 dX8_word_14 rfl rfl h19 (by rw [eσ20]; rfl) ?_
        refine g_iinc 18 C 1 (z1 + 1) [(1, .int (z1 + 1)), (0, .ref (ad 0))] dX8_word_15 rfl rfl rfl (by decide) rfl ?_
        refine g_goto 2 C dX8_word_18 (by decide) ?_
        refine g_lv (lv2 := [(0, .ref (ad 0)), (1, .int (z1 + 1))]) [1, 0] rfl ?_
        exact ih (z1 + 1) σ20 hF
  rw [f_X8_word] at hF
  refine g_iconst 1 C 0 dX8_word_0 rfl (by decide) ?_
  refine g_istore_n 2 C [(1, .int 0), (0, .ref (ad 0))] dX8_word_1 rfl rfl (by decide) rfl ?_
  refine g_lv (lv2 := [(0, .ref (ad 0)), (1, .int 0)]) [1, 0] rfl ?_
  exact K2  1000 0 σ hF
def f_X8_does (x1 : Int32) (x2 : Int32) (x3 : Int32) (x4 : Int32) (σ : sg_S) : Option (Int32 × sg_S) := (if x1 = 0 then sg_bnd2 (f_X8_treats x2 x3 (1 - x1) σ) (fun r3 τ1 => some (r3, τ1)) else (if x1 = 1 then sg_bnd2 (f_X8_treats x2 x3 (1 - x1) σ) (fun r7 τ5 => some (r7, τ5)) else (if x1 = 2 then sg_bnd2 (f_X8_credits x2 x3 x4 σ) (fun r11 τ9 => some (r11, τ9)) else (if x1 = 3 then sg_bnd2 (f_X8_repays x2 σ) (fun r15 τ13 => some (r15, τ13)) else (if x1 = 4 then sg_bnd2 (f_X8_letsRain x2 x3 σ) (fun r19 τ17 => some (r19, τ17)) else (if x1 = 5 then sg_bnd2 (f_X8_bails x2 x3 σ) (fun r23 τ21 => some (r23, τ21)) else (if x1 = 6 then sg_bnd2 (f_X8_buys x2 σ) (fun r27 τ25 => some (r27, τ25)) else sg_bnd2 (f_X8_months  σ) (fun r31 τ29 => some (r31, τ29)))))))))
set_option maxHeartbeats 4000000 in
set_option maxRecDepth 100000 in
theorem c_X8_does (l : Launch) {D : va_G} {Y : Nat → ClassId} {Z : (Nat → Prop) → State → Heap → Prop} (hZ : sg_Zok Z) {ad : Nat → Nat} {σ : sg_S} {σ' : sg_S} {x1 x2 x3 x4 : Int32} {r : Int32} (hF : f_X8_does x1 x2 x3 x4 σ = some (r, σ')) : sg_MI l yX8_does wsX8_does 4 102 D Y Z [.ref (ad 0), .int x1, .int x2, .int x3, .int x4] (ww_X8 Y ad σ) r (ww_X8 Y ad σ') := by
  intro sz
  refine sg_enter (own := RX8) (maxL := 5) (ret := (some .int)) (cc := cX8_does) (by decide +kernel) rfl rfl (Nat.le_of_ble_eq_true rfl) hZ ?_
  intro p e s m args below meth c C hr Q hQ hsz
  refine g_lv (lv2 := [(0, .ref (ad 0)), (1, .int x1), (2, .int x2), (3, .int x3), (4, .int x4)]) [0, 1, 2, 3, 4] rfl ?_
  rw [f_X8_does] at hF
  refine g_iload_n 1 C dX8_does_0 rfl rfl rfl ?_
  rcases sg_iteE hF with ⟨c4, hF⟩ | ⟨c4, hF⟩
  · refine g_tsin (off := 43) C 44 0 dX8_does_1 c4 (by decide) (by decide) (by decide) (by decide) ?_
    refine g_aload_n 45 C dX8_does_44 rfl rfl rfl ?_
    refine g_iload_n 46 C dX8_does_45 rfl rfl rfl ?_
    refine g_iload_n 47 C dX8_does_46 rfl rfl rfl ?_
    refine g_iconst 48 C 1 dX8_does_47 rfl (by decide) ?_
    refine g_iload_n 49 C dX8_does_48 rfl rfl rfl ?_
    refine g_isub 50 C dX8_does_49 rfl ?_
    obtain ⟨r3, τ1, q2, hF⟩ := sg_bnd2E hF
    refine g_callVi 53 C (w2 := (ww_X8 Y ad τ1)) (As := [.int x2, .int x3, .int (1 - x1)]) (st := []) (n0 := 3) (ci := 9) (q0 := 0) [0, 1, 2, 3, 4, 5, 6, 7, 8, 9, 10, 11, 12] [] [0, 1, 2, 3, 4, 5, 6, 7, 8, 9, 10, 11, 12] (c_X8_treats l hZ (ad := ad) q2) gX8_does_X8_treats ⟨rfl, by decide +kernel, by decide +kernel, rfl⟩ rfl ⟨Nat.le_of_ble_eq_true rfl, Nat.le_of_ble_eq_true rfl⟩ rfl rfl ⟨rfl, rfl, rfl, by decide, rfl, rfl⟩ rfl rfl (Nat.le_of_ble_eq_true rfl) ⟨Nat.le_refl _, Nat.le_refl _⟩ dX8_does_50 rfl rfl ?_
    obtain ⟨e1, e2⟩ := sg_pairE hF
    exact g_iret C hr rfl hQ hsz dX8_does_53 e1.symm (by rw [e2])
  rcases sg_iteE hF with ⟨c8, hF⟩ | ⟨c8, hF⟩
  · refine g_tsin (off := 43) C 44 1 dX8_does_1 c8 (by decide) (by decide) (by decide) (by decide) ?_
    refine g_aload_n 45 C dX8_does_44 rfl rfl rfl ?_
    refine g_iload_n 46 C dX8_does_45 rfl rfl rfl ?_
    refine g_iload_n 47 C dX8_does_46 rfl rfl rfl ?_
    refine g_iconst 48 C 1 dX8_does_47 rfl (by decide) ?_
    refine g_iload_n 49 C dX8_does_48 rfl rfl rfl ?_
    refine g_isub 50 C dX8_does_49 rfl ?_
    obtain ⟨r7, τ5, q6, hF⟩ := sg_bnd2E hF
    refine g_callVi 53 C (w2 := (ww_X8 Y ad τ5)) (As := [.int x2, .int x3, .int (1 - x1)]) (st := []) (n0 := 3) (ci := 9) (q0 := 0) [0, 1, 2, 3, 4, 5, 6, 7, 8, 9, 10, 11, 12] [] [0, 1, 2, 3, 4, 5, 6, 7, 8, 9, 10, 11, 12] (c_X8_treats l hZ (ad := ad) q6) gX8_does_X8_treats ⟨rfl, by decide +kernel, by decide +kernel, rfl⟩ rfl ⟨Nat.le_of_ble_eq_true rfl, Nat.le_of_ble_eq_true rfl⟩ rfl rfl ⟨rfl, rfl, rfl, by decide, rfl, rfl⟩ rfl rfl (Nat.le_of_ble_eq_true rfl) ⟨Nat.le_refl _, Nat.le_refl _⟩ dX8_does_50 rfl rfl ?_
    obtain ⟨e1, e2⟩ := sg_pairE hF
    exact g_iret C hr rfl hQ hsz dX8_does_53 e1.symm (by rw [e2])
  rcases sg_iteE hF with ⟨c12, hF⟩ | ⟨c12, hF⟩
  · refine g_tsin (off := 53) C 54 2 dX8_does_1 c12 (by decide) (by decide) (by decide) (by decide) ?_
    refine g_aload_n 55 C dX8_does_54 rfl rfl rfl ?_
    refine g_iload_n 56 C dX8_does_55 rfl rfl rfl ?_
    refine g_iload_n 57 C dX8_does_56 rfl rfl rfl ?_
    refine g_iload 59 C dX8_does_57 rfl rfl ?_
    obtain ⟨r11, τ9, q10, hF⟩ := sg_bnd2E hF
    refine g_callVi 62 C (w2 := (ww_X8 Y ad τ9)) (As := [.int x2, .int x3, .int x4]) (st := []) (n0 := 3) (ci := 9) (q0 := 0) [0, 1, 2, 3, 4, 5, 6, 7, 8, 9, 10, 11, 12] [] [0, 1, 2, 3, 4, 5, 6, 7, 8, 9, 10, 11, 12] (c_X8_credits l hZ (ad := ad) q10) gX8_does_X8_credits ⟨rfl, by decide +kernel, by decide +kernel, rfl⟩ rfl ⟨Nat.le_of_ble_eq_true rfl, Nat.le_of_ble_eq_true rfl⟩ rfl rfl ⟨rfl, rfl, rfl, by decide, rfl, rfl⟩ rfl rfl (Nat.le_of_ble_eq_true rfl) ⟨Nat.le_refl _, Nat.le_refl _⟩ dX8_does_59 rfl rfl ?_
    obtain ⟨e1, e2⟩ := sg_pairE hF
    exact g_iret C hr rfl hQ hsz dX8_does_62 e1.symm (by rw [e2])
  rcases sg_iteE hF with ⟨c16, hF⟩ | ⟨c16, hF⟩
  · refine g_tsin (off := 62) C 63 3 dX8_does_1 c16 (by decide) (by decide) (by decide) (by decide) ?_
    refine g_aload_n 64 C dX8_does_63 rfl rfl rfl ?_
    refine g_iload_n 65 C dX8_does_64 rfl rfl rfl ?_
    obtain ⟨r15, τ13, q14, hF⟩ := sg_bnd2E hF
    refine g_callVi 68 C (w2 := (ww_X8 Y ad τ13)) (As := [.int x2]) (st := []) (n0 := 1) (ci := 9) (q0 := 0) [0, 1, 2, 3, 4, 5, 6, 7, 8, 9, 10, 11, 12] [] [0, 1, 2, 3, 4, 5, 6, 7, 8, 9, 10, 11, 12] (c_X8_repays l hZ (ad := ad) q14) gX8_does_X8_repays ⟨rfl, by decide +kernel, by decide +kernel, rfl⟩ rfl ⟨Nat.le_of_ble_eq_true rfl, Nat.le_of_ble_eq_true rfl⟩ rfl rfl ⟨rfl, rfl, rfl, by decide, rfl, rfl⟩ rfl rfl (Nat.le_of_ble_eq_true rfl) ⟨Nat.le_refl _, Nat.le_refl _⟩ dX8_does_65 rfl rfl ?_
    obtain ⟨e1, e2⟩ := sg_pairE hF
    exact g_iret C hr rfl hQ hsz dX8_does_68 e1.symm (by rw [e2])
  rcases sg_iteE hF with ⟨c20, hF⟩ | ⟨c20, hF⟩
  · refine g_tsin (off := 68) C 69 4 dX8_does_1 c20 (by decide) (by decide) (by decide) (by decide) ?_
    refine g_aload_n 70 C dX8_does_69 rfl rfl rfl ?_
    refine g_iload_n 71 C dX8_does_70 rfl rfl rfl ?_
    refine g_iload_n 72 C dX8_does_71 rfl rfl rfl ?_
    obtain ⟨r19, τ17, q18, hF⟩ := sg_bnd2E hF
    refine g_callVi 75 C (w2 := (ww_X8 Y ad τ17)) (As := [.int x2, .int x3]) (st := []) (n0 := 2) (ci := 9) (q0 := 0) [0, 1, 2, 3, 4, 5, 6, 7, 8, 9, 10, 11, 12] [] [0, 1, 2, 3, 4, 5, 6, 7, 8, 9, 10, 11, 12] (c_X8_letsRain l hZ (ad := ad) q18) gX8_does_X8_letsRain ⟨rfl, by decide +kernel, by decide +kernel, rfl⟩ rfl ⟨Nat.le_of_ble_eq_true rfl, Nat.le_of_ble_eq_true rfl⟩ rfl rfl ⟨rfl, rfl, rfl, by decide, rfl, rfl⟩ rfl rfl (Nat.le_of_ble_eq_true rfl) ⟨Nat.le_refl _, Nat.le_refl _⟩ dX8_does_72 rfl rfl ?_
    obtain ⟨e1, e2⟩ := sg_pairE hF
    exact g_iret C hr rfl hQ hsz dX8_does_75 e1.symm (by rw [e2])
  rcases sg_iteE hF with ⟨c24, hF⟩ | ⟨c24, hF⟩
  · refine g_tsin (off := 75) C 76 5 dX8_does_1 c24 (by decide) (by decide) (by decide) (by decide) ?_
    refine g_aload_n 77 C dX8_does_76 rfl rfl rfl ?_
    refine g_iload_n 78 C dX8_does_77 rfl rfl rfl ?_
    refine g_iload_n 79 C dX8_does_78 rfl rfl rfl ?_
    obtain ⟨r23, τ21, q22, hF⟩ := sg_bnd2E hF
    refine g_callVi 82 C (w2 := (ww_X8 Y ad τ21)) (As := [.int x2, .int x3]) (st := []) (n0 := 2) (ci := 9) (q0 := 0) [0, 1, 2, 3, 4, 5, 6, 7, 8, 9, 10, 11, 12] [] [0, 1, 2, 3, 4, 5, 6, 7, 8, 9, 10, 11, 12] (c_X8_bails l hZ (ad := ad) q22) gX8_does_X8_bails ⟨rfl, by decide +kernel, by decide +kernel, rfl⟩ rfl ⟨Nat.le_of_ble_eq_true rfl, Nat.le_of_ble_eq_true rfl⟩ rfl rfl ⟨rfl, rfl, rfl, by decide, rfl, rfl⟩ rfl rfl (Nat.le_of_ble_eq_true rfl) ⟨Nat.le_refl _, Nat.le_refl _⟩ dX8_does_79 rfl rfl ?_
    obtain ⟨e1, e2⟩ := sg_pairE hF
    exact g_iret C hr rfl hQ hsz dX8_does_82 e1.symm (by rw [e2])
  rcases sg_iteE hF with ⟨c28, hF⟩ | ⟨c28, hF⟩
  · refine g_tsin (off := 82) C 83 6 dX8_does_1 c28 (by decide) (by decide) (by decide) (by decide) ?_
    refine g_aload_n 84 C dX8_does_83 rfl rfl rfl ?_
    refine g_iload_n 85 C dX8_does_84 rfl rfl rfl ?_
    obtain ⟨r27, τ25, q26, hF⟩ := sg_bnd2E hF
    refine g_callVi 88 C (w2 := (ww_X8 Y ad τ25)) (As := [.int x2]) (st := []) (n0 := 1) (ci := 9) (q0 := 0) [0, 1, 2, 3, 4, 5, 6, 7, 8, 9, 10, 11, 12] [] [0, 1, 2, 3, 4, 5, 6, 7, 8, 9, 10, 11, 12] (c_X8_buys l hZ (ad := ad) q26) gX8_does_X8_buys ⟨rfl, by decide +kernel, by decide +kernel, rfl⟩ rfl ⟨Nat.le_of_ble_eq_true rfl, Nat.le_of_ble_eq_true rfl⟩ rfl rfl ⟨rfl, rfl, rfl, by decide, rfl, rfl⟩ rfl rfl (Nat.le_of_ble_eq_true rfl) ⟨Nat.le_refl _, Nat.le_refl _⟩ dX8_does_85 rfl rfl ?_
    obtain ⟨e1, e2⟩ := sg_pairE hF
    exact g_iret C hr rfl hQ hsz dX8_does_88 e1.symm (by rw [e2])
  have nc4 : Int32.toInt x1 ≠ 0 := sg_neT c4 (by decide)
  have nc8 : Int32.toInt x1 ≠ 1 := sg_neT c8 (by decide)
  have nc12 : Int32.toInt x1 ≠ 2 := sg_neT c12 (by decide)
  have nc16 : Int32.toInt x1 ≠ 3 := sg_neT c16 (by decide)
  have nc20 : Int32.toInt x1 ≠ 4 := sg_neT c20 (by decide)
  have nc24 : Int32.toInt x1 ≠ 5 := sg_neT c24 (by decide)
  have nc28 : Int32.toInt x1 ≠ 6 := sg_neT c28 (by decide)
  refine g_tsout C 89 dX8_does_1 (by omega) (by decide) ?_
  refine g_aload_n 90 C dX8_does_89 rfl rfl rfl ?_
  obtain ⟨r31, τ29, q30, hF⟩ := sg_bnd2E hF
  refine g_callVi 93 C (w2 := (ww_X8 Y ad τ29)) (As := []) (st := []) (n0 := 0) (ci := 9) (q0 := 0) [0, 1, 2, 3, 4, 5, 6, 7, 8, 9, 10, 11, 12] [] [0, 1, 2, 3, 4, 5, 6, 7, 8, 9, 10, 11, 12] (c_X8_months l hZ (ad := ad) q30) gX8_does_X8_months ⟨rfl, by decide +kernel, by decide +kernel, rfl⟩ rfl ⟨Nat.le_of_ble_eq_true rfl, Nat.le_of_ble_eq_true rfl⟩ rfl rfl ⟨rfl, rfl, rfl, by decide, rfl, rfl⟩ rfl rfl (Nat.le_of_ble_eq_true rfl) ⟨Nat.le_refl _, Nat.le_refl _⟩ dX8_does_90 rfl rfl ?_
  obtain ⟨e1, e2⟩ := sg_pairE hF
  exact g_iret C hr rfl hQ hsz dX8_does_93 e1.symm (by rw [e2])
theorem kiX8_command_X8 : ∀ w ∈ u_ws RX8 TX8 27, w ∈ wsX8_command := by decide +kernel
theorem kfX8_command_190 : Cond.fieldLink RX8 190 "WeatherMinistryModel" "isWrong" "Z" ∈ wsX8_command := by decide +kernel
theorem kfX8_command_205 : Cond.fieldLink RX8 205 "WeatherMinistryModel" "isDoing" "Z" ∈ wsX8_command := by decide +kernel
def f_X8_command_J79 (z1 : Int32) (z2 : Int32) (z3 : Int32) (z4 : Int32) (σz : sg_S) : Option sg_S := (if σz 0 25 = 0 then (if σz 0 26 = 0 then some σz else sg_bnd2 (f_X8_does z1 z2 z3 z4 σz) (fun r12 τ10 => some (τ10))) else some σz)
def f_X8_command_J67 (z1 : Int32) (z2 : Int32) (z3 : Int32) (z4 : Int32) (σz : sg_S) : Option sg_S := (if z1 = 2 then sg_bnd2 (f_X8_blankAnd 1 σz) (fun r15 τ13 => f_X8_command_J79 z1 z2 z3 r15 τ13) else f_X8_command_J79 z1 z2 z3 z4 σz)
def f_X8_command_J61 (z1 : Int32) (z2 : Int32) (z4 : Int32) (σz : sg_S) : Option sg_S := sg_bnd2 (f_X8_blankAnd 2 σz) (fun r9 τ7 => f_X8_command_J67 z1 z2 r9 z4 τ7)
def f_X8_command_J51 (z1 : Int32) (z2 : Int32) (z3 : Int32) (z4 : Int32) (σz : sg_S) : Option sg_S := (if z1 = 2 then f_X8_command_J61 z1 z2 z4 σz else (if z1 = 4 then f_X8_command_J61 z1 z2 z4 σz else f_X8_command_J67 z1 z2 z3 z4 σz))
def f_X8_command_J45 (z1 : Int32) (z2 : Int32) (z4 : Int32) (σz : sg_S) : Option sg_S := sg_bnd2 (f_X8_blankAnd 1 σz) (fun r6 τ4 => f_X8_command_J51 z1 z2 r6 z4 τ4)
def f_X8_command_J31 (z1 : Int32) (z2 : Int32) (z3 : Int32) (z4 : Int32) (σz : sg_S) : Option sg_S := (if z1 = 0 then f_X8_command_J45 z1 z2 z4 σz else (if z1 = 1 then f_X8_command_J45 z1 z2 z4 σz else (if z1 = 5 then f_X8_command_J45 z1 z2 z4 σz else f_X8_command_J51 z1 z2 z3 z4 σz)))
def f_X8_command  (σ : sg_S) : Option sg_S := sg_bnd2 (f_X8_word  σ) (fun r3 τ1 => (if τ1 0 25 = 0 then (if r3 < 7 then sg_bnd2 (f_X8_digits 1 τ1) (fun r18 τ16 => f_X8_command_J31 r3 r18 0 0 τ16) else f_X8_command_J31 r3 0 0 0 τ1) else f_X8_command_J31 r3 0 0 0 τ1))
set_option maxHeartbeats 4000000 in
set_option maxRecDepth 100000 in
theorem c_X8_command (l : Launch) {D : va_G} {Y : Nat → ClassId} {Z : (Nat → Prop) → State → Heap → Prop} (hZ : sg_Zok Z) {ad : Nat → Nat} {σ : sg_S} {σ' : sg_S} (hF : f_X8_command  σ = some σ') : sg_MV l yX8_command wsX8_command 5 126 D Y Z [.ref (ad 0)] (ww_X8 Y ad σ) (ww_X8 Y ad σ') := by
  intro sz
  refine sg_enter (own := RX8) (maxL := 6) (ret := none) (cc := cX8_command) (by decide +kernel) rfl rfl (Nat.le_of_ble_eq_true rfl) hZ ?_
  intro p e s m args below meth c C hr Q hQ hsz
  refine g_lv (lv2 := [(0, .ref (ad 0))]) [0] rfl ?_
  have K79 : ∀ (z1 : Int32) (z2 : Int32) (z3 : Int32) (z4 : Int32) (σz : sg_S), f_X8_command_J79 z1 z2 z3 z4 σz = some σ' → sg_G p l e ({ frames := 5, cells := 0, slots := 0, locals := 126 } : Room) s m args below meth c D (va_A (ww_X8 Y ad σ) s.heap.size) 6 0 0 Q 79 [(0, .ref (ad 0)), (1, .int z1), (2, .int z2), (3, .int z3), (4, .int z4)] [] (ww_X8 Y ad σz) := by
    intro  z1 z2 z3 z4 σz hF
    rw [f_X8_command_J79] at hF
    refine g_aload_n 80 C dX8_command_79 rfl rfl rfl ?_
    refine g_get 83 C (own := RX8) (C1 := RX8) (T := TX8) 0 25 (.int (σz 0 25)) kiX8_command_X8 kfX8_command_190 rfl dX8_command_80 rfl rfl rfl (by decide) rfl ?_
    refine g_if_ne 86 93 C dX8_command_83 (by decide) rfl hF (fun hF => ?_) (fun hF => ?_)
    · have e2 := sg_someE hF
      exact g_vret C hr hQ hsz dX8_command_93 (by rw [e2])
    · refine g_aload_n 87 C dX8_command_86 rfl rfl rfl ?_
      refine g_get 90 C (own := RX8) (C1 := RX8) (T := TX8) 0 26 (.int (σz 0 26)) kiX8_command_X8 kfX8_command_205 rfl dX8_command_87 rfl rfl rfl (by decide) rfl ?_
      refine g_if_ne 93 94 C dX8_command_90 (by decide) rfl hF (fun hF => ?_) (fun hF => ?_)
      · refine g_aload_n 95 C dX8_command_94 rfl rfl rfl ?_
        refine g_iload_n 96 C dX8_command_95 rfl rfl rfl ?_
        refine g_iload_n 97 C dX8_command_96 rfl rfl rfl ?_
        refine g_iload_n 98 C dX8_command_97 rfl rfl rfl ?_
        refine g_iload 100 C dX8_command_98 rfl rfl ?_
        obtain ⟨r12, τ10, q11, hF⟩ := sg_bnd2E hF
        refine g_callVi 103 C (w2 := (ww_X8 Y ad τ10)) (As := [.int z1, .int z2, .int z3, .int z4]) (st := []) (n0 := 4) (ci := 9) (q0 := 0) [0, 1, 2, 3, 4, 5, 6, 7, 8, 9, 10, 11, 12] [] [0, 1, 2, 3, 4, 5, 6, 7, 8, 9, 10, 11, 12] (c_X8_does l hZ (ad := ad) q11) gX8_command_X8_does ⟨rfl, by decide +kernel, by decide +kernel, rfl⟩ rfl ⟨Nat.le_of_ble_eq_true rfl, Nat.le_of_ble_eq_true rfl⟩ rfl rfl ⟨rfl, rfl, rfl, by decide, rfl, rfl⟩ rfl rfl (Nat.le_of_ble_eq_true rfl) ⟨Nat.le_refl _, Nat.le_refl _⟩ dX8_command_100 rfl rfl ?_
        refine g_istore 105 C [(5, .int r12), (0, .ref (ad 0)), (1, .int z1), (2, .int z2), (3, .int z3), (4, .int z4)] dX8_command_103 rfl (by decide) rfl ?_
        have e2 := sg_someE hF
        exact g_vret C hr hQ hsz dX8_command_105 (by rw [e2])
      · have e2 := sg_someE hF
        exact g_vret C hr hQ hsz dX8_command_93 (by rw [e2])
  have K67 : ∀ (z1 : Int32) (z2 : Int32) (z3 : Int32) (z4 : Int32) (σz : sg_S), f_X8_command_J67 z1 z2 z3 z4 σz = some σ' → sg_G p l e ({ frames := 5, cells := 0, slots := 0, locals := 126 } : Room) s m args below meth c D (va_A (ww_X8 Y ad σ) s.heap.size) 6 0 0 Q 67 [(0, .ref (ad 0)), (1, .int z1), (2, .int z2), (3, .int z3), (4, .int z4)] [] (ww_X8 Y ad σz) := by
    intro  z1 z2 z3 z4 σz hF
    rw [f_X8_command_J67] at hF
    refine g_iload_n 68 C dX8_command_67 rfl rfl rfl ?_
    refine g_iconst 69 C 2 dX8_command_68 rfl (by decide) ?_
    refine g_icmp_ne 72 79 C dX8_command_69 (by decide) rfl hF (fun hF => ?_) (fun hF => ?_)
    · refine g_lv (lv2 := [(0, .ref (ad 0)), (1, .int z1), (2, .int z2), (3, .int z3), (4, .int z4)]) [0, 1, 2, 3, 4] rfl ?_
      exact K79  z1 z2 z3 z4 σz hF
    · refine g_aload_n 73 C dX8_command_72 rfl rfl rfl ?_
      refine g_iconst 74 C 1 dX8_command_73 rfl (by decide) ?_
      obtain ⟨r15, τ13, q14, hF⟩ := sg_bnd2E hF
      refine g_callVi 77 C (w2 := (ww_X8 Y ad τ13)) (As := [.int 1]) (st := []) (n0 := 1) (ci := 9) (q0 := 0) [0, 1, 2, 3, 4, 5, 6, 7, 8, 9, 10, 11, 12] [] [0, 1, 2, 3, 4, 5, 6, 7, 8, 9, 10, 11, 12] (c_X8_blankAnd l hZ (ad := ad) q14) gX8_command_X8_blankAnd ⟨rfl, by decide +kernel, by decide +kernel, rfl⟩ rfl ⟨Nat.le_of_ble_eq_true rfl, Nat.le_of_ble_eq_true rfl⟩ rfl rfl ⟨rfl, rfl, rfl, by decide, rfl, rfl⟩ rfl rfl (Nat.le_of_ble_eq_true rfl) ⟨Nat.le_refl _, Nat.le_refl _⟩ dX8_command_74 rfl rfl ?_
      refine g_istore 79 C [(4, .int r15), (0, .ref (ad 0)), (1, .int z1), (2, .int z2), (3, .int z3)] dX8_command_77 rfl (by decide) rfl ?_
      refine g_lv (lv2 := [(0, .ref (ad 0)), (1, .int z1), (2, .int z2), (3, .int z3), (4, .int r15)]) [1, 2, 3, 4, 0] rfl ?_
      exact K79  z1 z2 z3 r15 τ13 hF
  have K61 : ∀ (z1 : Int32) (z2 : Int32) (z4 : Int32) (σz : sg_S), f_X8_command_J61 z1 z2 z4 σz = some σ' → sg_G p l e ({ frames := 5, cells := 0, slots := 0, locals := 126 } : Room) s m args below meth c D (va_A (ww_X8 Y ad σ) s.heap.size) 6 0 0 Q 61 [(0, .ref (ad 0)), (1, .int z1), (2, .int z2), (4, .int z4)] [] (ww_X8 Y ad σz) := by
    intro  z1 z2 z4 σz hF
    rw [f_X8_command_J61] at hF
    refine g_aload_n 62 C dX8_command_61 rfl rfl rfl ?_
    refine g_iconst 63 C 2 dX8_command_62 rfl (by decide) ?_
    obtain ⟨r9, τ7, q8, hF⟩ := sg_bnd2E hF
    refine g_callVi 66 C (w2 := (ww_X8 Y ad τ7)) (As := [.int 2]) (st := []) (n0 := 1) (ci := 9) (q0 := 0) [0, 1, 2, 3, 4, 5, 6, 7, 8, 9, 10, 11, 12] [] [0, 1, 2, 3, 4, 5, 6, 7, 8, 9, 10, 11, 12] (c_X8_blankAnd l hZ (ad := ad) q8) gX8_command_X8_blankAnd ⟨rfl, by decide +kernel, by decide +kernel, rfl⟩ rfl ⟨Nat.le_of_ble_eq_true rfl, Nat.le_of_ble_eq_true rfl⟩ rfl rfl ⟨rfl, rfl, rfl, by decide, rfl, rfl⟩ rfl rfl (Nat.le_of_ble_eq_true rfl) ⟨Nat.le_refl _, Nat.le_refl _⟩ dX8_command_63 rfl rfl ?_
    refine g_istore_n 67 C [(3, .int r9), (0, .ref (ad 0)), (1, .int z1), (2, .int z2), (4, .int z4)] dX8_command_66 rfl rfl (by decide) rfl ?_
    refine g_lv (lv2 := [(0, .ref (ad 0)), (1, .int z1), (2, .int z2), (3, .int r9), (4, .int z4)]) [1, 2, 3, 0, 4] rfl ?_
    exact K67  z1 z2 r9 z4 τ7 hF
  have K51 : ∀ (z1 : Int32) (z2 : Int32) (z3 : Int32) (z4 : Int32) (σz : sg_S), f_X8_command_J51 z1 z2 z3 z4 σz = some σ' → sg_G p l e ({ frames := 5, cells := 0, slots := 0, locals := 126 } : Room) s m args below meth c D (va_A (ww_X8 Y ad σ) s.heap.size) 6 0 0 Q 51 [(0, .ref (ad 0)), (1, .int z1), (2, .int z2), (3, .int z3), (4, .int z4)] [] (ww_X8 Y ad σz) := by
    intro  z1 z2 z3 z4 σz hF
    rw [f_X8_command_J51] at hF
    refine g_iload_n 52 C dX8_command_51 rfl rfl rfl ?_
    refine g_iconst 53 C 2 dX8_command_52 rfl (by decide) ?_
    refine g_icmp_eq 56 61 C dX8_command_53 (by decide) rfl hF (fun hF => ?_) (fun hF => ?_)
    · refine g_lv (lv2 := [(0, .ref (ad 0)), (1, .int z1), (2, .int z2), (4, .int z4)]) [0, 1, 2, 4] rfl ?_
      exact K61  z1 z2 z4 σz hF
    · refine g_iload_n 57 C dX8_command_56 rfl rfl rfl ?_
      refine g_iconst 58 C 4 dX8_command_57 rfl (by decide) ?_
      refine g_icmp_ne 61 67 C dX8_command_58 (by decide) rfl hF (fun hF => ?_) (fun hF => ?_)
      · refine g_lv (lv2 := [(0, .ref (ad 0)), (1, .int z1), (2, .int z2), (3, .int z3), (4, .int z4)]) [0, 1, 2, 3, 4] rfl ?_
        exact K67  z1 z2 z3 z4 σz hF
      · refine g_lv (lv2 := [(0, .ref (ad 0)), (1, .int z1), (2, .int z2), (4, .int z4)]) [0, 1, 2, 4] rfl ?_
        exact K61  z1 z2 z4 σz hF
  have K45 : ∀ (z1 : Int32) (z2 : Int32) (z4 : Int32) (σz : sg_S), f_X8_command_J45 z1 z2 z4 σz = some σ' → sg_G p l e ({ frames := 5, cells := 0, slots := 0, locals := 126 } : Room) s m args below meth c D (va_A (ww_X8 Y ad σ) s.heap.size) 6 0 0 Q 45 [(0, .ref (ad 0)), (1, .int z1), (2, .int z2), (4, .int z4)] [] (ww_X8 Y ad σz) := by
    intro  z1 z2 z4 σz hF
    rw [f_X8_command_J45] at hF
    refine g_aload_n 46 C dX8_command_45 rfl rfl rfl ?_
    refine g_iconst 47 C 1 dX8_command_46 rfl (by decide) ?_
    obtain ⟨r6, τ4, q5, hF⟩ := sg_bnd2E hF
    refine g_callVi 50 C (w2 := (ww_X8 Y ad τ4)) (As := [.int 1]) (st := []) (n0 := 1) (ci := 9) (q0 := 0) [0, 1, 2, 3, 4, 5, 6, 7, 8, 9, 10, 11, 12] [] [0, 1, 2, 3, 4, 5, 6, 7, 8, 9, 10, 11, 12] (c_X8_blankAnd l hZ (ad := ad) q5) gX8_command_X8_blankAnd ⟨rfl, by decide +kernel, by decide +kernel, rfl⟩ rfl ⟨Nat.le_of_ble_eq_true rfl, Nat.le_of_ble_eq_true rfl⟩ rfl rfl ⟨rfl, rfl, rfl, by decide, rfl, rfl⟩ rfl rfl (Nat.le_of_ble_eq_true rfl) ⟨Nat.le_refl _, Nat.le_refl _⟩ dX8_command_47 rfl rfl ?_
    refine g_istore_n 51 C [(3, .int r6), (0, .ref (ad 0)), (1, .int z1), (2, .int z2), (4, .int z4)] dX8_command_50 rfl rfl (by decide) rfl ?_
    refine g_lv (lv2 := [(0, .ref (ad 0)), (1, .int z1), (2, .int z2), (3, .int r6), (4, .int z4)]) [1, 2, 3, 0, 4] rfl ?_
    exact K51  z1 z2 r6 z4 τ4 hF
  have K31 : ∀ (z1 : Int32) (z2 : Int32) (z3 : Int32) (z4 : Int32) (σz : sg_S), f_X8_command_J31 z1 z2 z3 z4 σz = some σ' → sg_G p l e ({ frames := 5, cells := 0, slots := 0, locals := 126 } : Room) s m args below meth c D (va_A (ww_X8 Y ad σ) s.heap.size) 6 0 0 Q 31 [(0, .ref (ad 0)), (1, .int z1), (2, .int z2), (3, .int z3), (4, .int z4)] [] (ww_X8 Y ad σz) := by
    intro  z1 z2 z3 z4 σz hF
    rw [f_X8_command_J31] at hF
    refine g_iload_n 32 C dX8_command_31 rfl rfl rfl ?_
    refine g_if_eq 35 45 C dX8_command_32 (by decide) rfl hF (fun hF => ?_) (fun hF => ?_)
    · refine g_lv (lv2 := [(0, .ref (ad 0)), (1, .int z1), (2, .int z2), (4, .int z4)]) [0, 1, 2, 4] rfl ?_
      exact K45  z1 z2 z4 σz hF
    · refine g_iload_n 36 C dX8_command_35 rfl rfl rfl ?_
      refine g_iconst 37 C 1 dX8_command_36 rfl (by decide) ?_
      refine g_icmp_eq 40 45 C dX8_command_37 (by decide) rfl hF (fun hF => ?_) (fun hF => ?_)
      · refine g_lv (lv2 := [(0, .ref (ad 0)), (1, .int z1), (2, .int z2), (4, .int z4)]) [0, 1, 2, 4] rfl ?_
        exact K45  z1 z2 z4 σz hF
      · refine g_iload_n 41 C dX8_command_40 rfl rfl rfl ?_
        refine g_iconst 42 C 5 dX8_command_41 rfl (by decide) ?_
        refine g_icmp_ne 45 51 C dX8_command_42 (by decide) rfl hF (fun hF => ?_) (fun hF => ?_)
        · refine g_lv (lv2 := [(0, .ref (ad 0)), (1, .int z1), (2, .int z2), (3, .int z3), (4, .int z4)]) [0, 1, 2, 3, 4] rfl ?_
          exact K51  z1 z2 z3 z4 σz hF
        · refine g_lv (lv2 := [(0, .ref (ad 0)), (1, .int z1), (2, .int z2), (4, .int z4)]) [0, 1, 2, 4] rfl ?_
          exact K45  z1 z2 z4 σz hF
  rw [f_X8_command] at hF
  refine g_aload_n 1 C dX8_command_0 rfl rfl rfl ?_
  obtain ⟨r3, τ1, q2, hF⟩ := sg_bnd2E hF
  refine g_callVi 4 C (w2 := (ww_X8 Y ad τ1)) (As := []) (st := []) (n0 := 0) (ci := 9) (q0 := 0) [0, 1, 2, 3, 4, 5, 6, 7, 8, 9, 10, 11, 12] [] [0, 1, 2, 3, 4, 5, 6, 7, 8, 9, 10, 11, 12] (c_X8_word l hZ (ad := ad) q2) gX8_command_X8_word ⟨rfl, by decide +kernel, by decide +kernel, rfl⟩ rfl ⟨Nat.le_of_ble_eq_true rfl, Nat.le_of_ble_eq_true rfl⟩ rfl rfl ⟨rfl, rfl, rfl, by decide, rfl, rfl⟩ rfl rfl (Nat.le_of_ble_eq_true rfl) ⟨Nat.le_refl _, Nat.le_refl _⟩ dX8_command_1 rfl rfl ?_
  refine g_istore_n 5 C [(1, .int r3), (0, .ref (ad 0))] dX8_command_4 rfl rfl (by decide) rfl ?_
  refine g_iconst 6 C 0 dX8_command_5 rfl (by decide) ?_
  refine g_istore_n 7 C [(2, .int 0), (1, .int r3), (0, .ref (ad 0))] dX8_command_6 rfl rfl (by decide) rfl ?_
  refine g_iconst 8 C 0 dX8_command_7 rfl (by decide) ?_
  refine g_istore_n 9 C [(3, .int 0), (2, .int 0), (1, .int r3), (0, .ref (ad 0))] dX8_command_8 rfl rfl (by decide) rfl ?_
  refine g_iconst 10 C 0 dX8_command_9 rfl (by decide) ?_
  refine g_istore 12 C [(4, .int 0), (3, .int 0), (2, .int 0), (1, .int r3), (0, .ref (ad 0))] dX8_command_10 rfl (by decide) rfl ?_
  refine g_aload_n 13 C dX8_command_12 rfl rfl rfl ?_
  refine g_get 16 C (own := RX8) (C1 := RX8) (T := TX8) 0 25 (.int (τ1 0 25)) kiX8_command_X8 kfX8_command_190 rfl dX8_command_13 rfl rfl rfl (by decide) rfl ?_
  refine g_if_ne 19 31 C dX8_command_16 (by decide) rfl hF (fun hF => ?_) (fun hF => ?_)
  · refine g_lv (lv2 := [(0, .ref (ad 0)), (1, .int r3), (2, .int 0), (3, .int 0), (4, .int 0)]) [4, 3, 2, 1, 0] rfl ?_
    exact K31  r3 0 0 0 τ1 hF
  · refine g_iload_n 20 C dX8_command_19 rfl rfl rfl ?_
    refine g_bipush 22 C 7 dX8_command_20 rfl (by decide) ?_
    refine g_icmp_ge 25 31 C dX8_command_22 (by decide) rfl hF (fun hF => ?_) (fun hF => ?_)
    · refine g_lv (lv2 := [(0, .ref (ad 0)), (1, .int r3), (2, .int 0), (3, .int 0), (4, .int 0)]) [4, 3, 2, 1, 0] rfl ?_
      exact K31  r3 0 0 0 τ1 hF
    · refine g_aload_n 26 C dX8_command_25 rfl rfl rfl ?_
      refine g_iconst 27 C 1 dX8_command_26 rfl (by decide) ?_
      obtain ⟨r18, τ16, q17, hF⟩ := sg_bnd2E hF
      refine g_callVi 30 C (w2 := (ww_X8 Y ad τ16)) (As := [.int 1]) (st := []) (n0 := 1) (ci := 9) (q0 := 0) [0, 1, 2, 3, 4, 5, 6, 7, 8, 9, 10, 11, 12] [] [0, 1, 2, 3, 4, 5, 6, 7, 8, 9, 10, 11, 12] (c_X8_digits l hZ (ad := ad) q17) gX8_command_X8_digits ⟨rfl, by decide +kernel, by decide +kernel, rfl⟩ rfl ⟨Nat.le_of_ble_eq_true rfl, Nat.le_of_ble_eq_true rfl⟩ rfl rfl ⟨rfl, rfl, rfl, by decide, rfl, rfl⟩ rfl rfl (Nat.le_of_ble_eq_true rfl) ⟨Nat.le_refl _, Nat.le_refl _⟩ dX8_command_27 rfl rfl ?_
      refine g_istore_n 31 C [(2, .int r18), (4, .int 0), (3, .int 0), (1, .int r3), (0, .ref (ad 0))] dX8_command_30 rfl rfl (by decide) rfl ?_
      refine g_lv (lv2 := [(0, .ref (ad 0)), (1, .int r3), (2, .int r18), (3, .int 0), (4, .int 0)]) [4, 3, 0, 2, 1] rfl ?_
      exact K31  r3 r18 0 0 τ16 hF
theorem kiX8_commands_X8 : ∀ w ∈ u_ws RX8 TX8 27, w ∈ wsX8_commands := by decide +kernel
theorem kfX8_commands_184 : Cond.fieldLink RX8 184 "WeatherMinistryModel" "here" "I" ∈ wsX8_commands := by decide +kernel
theorem kfX8_commands_190 : Cond.fieldLink RX8 190 "WeatherMinistryModel" "isWrong" "Z" ∈ wsX8_commands := by decide +kernel
theorem kfX8_commands_54 : Cond.fieldLink RX8 54 "WeatherMinistryModel" "fails" "I" ∈ wsX8_commands := by decide +kernel
theorem kfX8_commands_187 : Cond.fieldLink RX8 187 "WeatherMinistryModel" "end" "I" ∈ wsX8_commands := by decide +kernel
def f_X8_commands_J76 (κ16 : Int32 → sg_S → Option (Int32 × sg_S)) (z1 : Int32) (t0 : Int32) (t1 : Int32) (σz : sg_S) : Option (Int32 × sg_S) := sg_let (sg_up σz 0 22 (t1 + t0)) (fun σ9 => (if σ9 0 25 = 0 then sg_bnd (f_X8_command  σ9) (fun τ10 => κ16 (z1 + 1) τ10) else κ16 (z1 + 1) σ9))
def f_X8_commands_J56 (κ16 : Int32 → sg_S → Option (Int32 × sg_S)) (z1 : Int32) (t0 : Int32) (σz : sg_S) : Option (Int32 × sg_S) := sg_grd (sg_01 t0) (sg_let (sg_up σz 0 25 t0) (fun σ8 => (if σ8 0 25 = 0 then f_X8_commands_J76 κ16 z1 1 (σ8 0 22) σ8 else f_X8_commands_J76 κ16 z1 0 (σ8 0 22) σ8)))
def f_X8_commands_L16 : Nat → Int32 → sg_S → Option (Int32 × sg_S)
  | 0, _, _ => none
  | nz + 1, z1, σz => (if σz 0 25 = 0 then (if σz 0 0 = 0 then (if σz 0 22 < σz 0 23 then sg_bnd (f_X8_sign  σz) (fun r5 => (if r5 = 59 then f_X8_commands_J56 (fun z1' σz' => f_X8_commands_L16 nz z1' σz') z1 0 σz else f_X8_commands_J56 (fun z1' σz' => f_X8_commands_L16 nz z1' σz') z1 1 σz)) else some (z1, σz)) else some (z1, σz)) else some (z1, σz))
def f_X8_commands  (σ : sg_S) : Option (Int32 × sg_S) := sg_let (sg_up σ 0 22 0) (fun σ1 => sg_let (sg_up σ1 0 25 0) (fun σ2 => sg_bnd (f_X8_command  σ2) (fun τ3 => f_X8_commands_L16 1000 1 τ3)))
set_option maxHeartbeats 4000000 in
set_option maxRecDepth 100000 in
theorem c_X8_commands (l : Launch) {D : va_G} {Y : Nat → ClassId} {Z : (Nat → Prop) → State → Heap → Prop} (hZ : sg_Zok Z) {ad : Nat → Nat} {σ : sg_S} {σ' : sg_S} {r : Int32} (hF : f_X8_commands  σ = some (r, σ')) : sg_MI l yX8_commands wsX8_commands 6 151 D Y Z [.ref (ad 0)] (ww_X8 Y ad σ) r (ww_X8 Y ad σ') := by
  intro sz
  refine sg_enter (own := RX8) (maxL := 2) (ret := (some .int)) (cc := cX8_commands) (by decide +kernel) rfl rfl (Nat.le_of_ble_eq_true rfl) hZ ?_
  intro p e s m args below meth c C hr Q hQ hsz
  refine g_lv (lv2 := [(0, .ref (ad 0))]) [0] rfl ?_
  have K76 : ∀ (κ16 : Int32 → sg_S → Option (Int32 × sg_S)), (∀ (z1 : Int32) (σz : sg_S), κ16 z1 σz = some (r, σ') → sg_G p l e ({ frames := 6, cells := 0, slots := 0, locals := 151 } : Room) s m args below meth c D (va_A (ww_X8 Y ad σ) s.heap.size) 2 0 0 Q 16 [(0, .ref (ad 0)), (1, .int z1)] [] (ww_X8 Y ad σz)) → ∀ (z1 : Int32) (t0 : Int32) (t1 : Int32) (σz : sg_S), f_X8_commands_J76 κ16 z1 t0 t1 σz = some (r, σ') → sg_G p l e ({ frames := 6, cells := 0, slots := 0, locals := 151 } : Room) s m args below meth c D (va_A (ww_X8 Y ad σ) s.heap.size) 2 0 0 Q 76 [(0, .ref (ad 0)), (1, .int z1)] [.int t0, .int t1, .ref (ad 0)] (ww_X8 Y ad σz) := by
    intro κ16 hκ16 z1 t0 t1 σz hF
    rw [f_X8_commands_J76] at hF
    refine g_iadd 77 C dX8_commands_76 rfl ?_
    obtain ⟨σ9, eσ9, hF⟩ := sg_letE hF
    refine g_put 80 C (own := RX8) (C1 := RX8) (T := TX8) (w2 := (ww_X8 Y ad σ9)) 0 22 tyX8 tyX8_ok nmX8 kiX8_commands_X8 kfX8_commands_184 rfl rfl (ty := .int) (by decide) rfl rfl (sg_blt rfl) dX8_commands_77 rfl rfl rfl (by decide) (by rw [eσ9]; rfl) ?_
    refine g_aload_n 81 C dX8_commands_80 rfl rfl rfl ?_
    refine g_get 84 C (own := RX8) (C1 := RX8) (T := TX8) 0 25 (.int (σ9 0 25)) kiX8_commands_X8 kfX8_commands_190 rfl dX8_commands_81 rfl rfl rfl (by decide) rfl ?_
    refine g_if_ne 87 91 C dX8_commands_84 (by decide) rfl hF (fun hF => ?_) (fun hF => ?_)
    · refine g_iinc 94 C 1 (z1 + 1) [(1, .int (z1 + 1)), (0, .ref (ad 0))] dX8_commands_91 rfl rfl rfl (by decide) rfl ?_
      refine g_goto 16 C dX8_commands_94 (by decide) ?_
      refine g_lv (lv2 := [(0, .ref (ad 0)), (1, .int (z1 + 1))]) [1, 0] rfl ?_
      exact hκ16 (z1 + 1) σ9 hF
    · refine g_aload_n 88 C dX8_commands_87 rfl rfl rfl ?_
      obtain ⟨τ10, q11, hF⟩ := sg_bndE hF
      refine g_callVv 91 C (w2 := (ww_X8 Y ad τ10)) (As := []) (st := []) (n0 := 0) (ci := 9) (q0 := 0) [0, 1, 2, 3, 4, 5, 6, 7, 8, 9, 10, 11, 12] [] [0, 1, 2, 3, 4, 5, 6, 7, 8, 9, 10, 11, 12] (c_X8_command l hZ (ad := ad) q11) gX8_commands_X8_command ⟨rfl, by decide +kernel, by decide +kernel, rfl⟩ rfl ⟨Nat.le_of_ble_eq_true rfl, Nat.le_of_ble_eq_true rfl⟩ rfl rfl ⟨rfl, rfl, rfl, by decide, rfl, rfl⟩ rfl rfl (Nat.le_of_ble_eq_true rfl) ⟨Nat.le_refl _, Nat.le_refl _⟩ dX8_commands_88 rfl rfl ?_
      refine g_iinc 94 C 1 (z1 + 1) [(1, .int (z1 + 1)), (0, .ref (ad 0))] dX8_commands_91 rfl rfl rfl (by decide) rfl ?_
      refine g_goto 16 C dX8_commands_94 (by decide) ?_
      refine g_lv (lv2 := [(0, .ref (ad 0)), (1, .int (z1 + 1))]) [1, 0] rfl ?_
      exact hκ16 (z1 + 1) τ10 hF
  have K56 : ∀ (κ16 : Int32 → sg_S → Option (Int32 × sg_S)), (∀ (z1 : Int32) (σz : sg_S), κ16 z1 σz = some (r, σ') → sg_G p l e ({ frames := 6, cells := 0, slots := 0, locals := 151 } : Room) s m args below meth c D (va_A (ww_X8 Y ad σ) s.heap.size) 2 0 0 Q 16 [(0, .ref (ad 0)), (1, .int z1)] [] (ww_X8 Y ad σz)) → ∀ (z1 : Int32) (t0 : Int32) (σz : sg_S), f_X8_commands_J56 κ16 z1 t0 σz = some (r, σ') → sg_G p l e ({ frames := 6, cells := 0, slots := 0, locals := 151 } : Room) s m args below meth c D (va_A (ww_X8 Y ad σ) s.heap.size) 2 0 0 Q 56 [(0, .ref (ad 0)), (1, .int z1)] [.int t0, .ref (ad 0)] (ww_X8 Y ad σz) := by
    intro κ16 hκ16 z1 t0 σz hF
    rw [f_X8_commands_J56] at hF
    obtain ⟨h7, hF⟩ := sg_grdE hF
    obtain ⟨σ8, eσ8, hF⟩ := sg_letE hF
    refine g_put 59 C (own := RX8) (C1 := RX8) (T := TX8) (w2 := (ww_X8 Y ad σ8)) 0 25 tyX8 tyX8_ok nmX8 kiX8_commands_X8 kfX8_commands_190 rfl rfl (ty := .boolean) (by decide) (sg_01n h7).1 (sg_01n h7).2 (sg_blt rfl) dX8_commands_56 rfl rfl rfl (by decide) (by rw [eσ8]; rfl) ?_
    refine g_aload_n 60 C dX8_commands_59 rfl rfl rfl ?_
    refine g_dup 61 C dX8_commands_60 rfl rfl ?_
    refine g_get 64 C (own := RX8) (C1 := RX8) (T := TX8) 0 22 (.int (σ8 0 22)) kiX8_commands_X8 kfX8_commands_184 rfl dX8_commands_61 rfl rfl rfl (by decide) rfl ?_
    refine g_aload_n 65 C dX8_commands_64 rfl rfl rfl ?_
    refine g_get 68 C (own := RX8) (C1 := RX8) (T := TX8) 0 25 (.int (σ8 0 25)) kiX8_commands_X8 kfX8_commands_190 rfl dX8_commands_65 rfl rfl rfl (by decide) rfl ?_
    refine g_if_eq 71 75 C dX8_commands_68 (by decide) rfl hF (fun hF => ?_) (fun hF => ?_)
    · refine g_iconst 76 C 1 dX8_commands_75 rfl (by decide) ?_
      refine g_lv (lv2 := [(0, .ref (ad 0)), (1, .int z1)]) [0, 1] rfl ?_
      exact K76 κ16 hκ16 z1 1 (σ8 0 22) σ8 hF
    · refine g_iconst 72 C 0 dX8_commands_71 rfl (by decide) ?_
      refine g_goto 76 C dX8_commands_72 (by decide) ?_
      refine g_lv (lv2 := [(0, .ref (ad 0)), (1, .int z1)]) [0, 1] rfl ?_
      exact K76 κ16 hκ16 z1 0 (σ8 0 22) σ8 hF
  have K16 : ∀ (nz : Nat), ∀ (z1 : Int32) (σz : sg_S), f_X8_commands_L16 nz z1 σz = some (r, σ') → sg_G p l e ({ frames := 6, cells := 0, slots := 0, locals := 151 } : Room) s m args below meth c D (va_A (ww_X8 Y ad σ) s.heap.size) 2 0 0 Q 16 [(0, .ref (ad 0)), (1, .int z1)] [] (ww_X8 Y ad σz) := by
    intro nz
    induction nz with
    | zero =>
      intro z1 σz hF
      rw [f_X8_commands_L16.eq_1] at hF
      exact nomatch hF
    | succ nz ih =>
      intro z1 σz hF
      rw [f_X8_commands_L16.eq_2] at hF
      refine g_aload_n 17 C dX8_commands_16 rfl rfl rfl ?_
      refine g_get 20 C (own := RX8) (C1 := RX8) (T := TX8) 0 25 (.int (σz 0 25)) kiX8_commands_X8 kfX8_commands_190 rfl dX8_commands_17 rfl rfl rfl (by decide) rfl ?_
      refine g_if_ne 23 97 C dX8_commands_20 (by decide) rfl hF (fun hF => ?_) (fun hF => ?_)
      · refine g_iload_n 98 C dX8_commands_97 rfl rfl rfl ?_
        obtain ⟨e1, e2⟩ := sg_pairE hF
        exact g_iret C hr rfl hQ hsz dX8_commands_98 e1.symm (by rw [e2])
      · refine g_aload_n 24 C dX8_commands_23 rfl rfl rfl ?_
        refine g_get 27 C (own := RX8) (C1 := RX8) (T := TX8) 0 0 (.int (σz 0 0)) kiX8_commands_X8 kfX8_commands_54 rfl dX8_commands_24 rfl rfl rfl (by decide) rfl ?_
        refine g_if_ne 30 97 C dX8_commands_27 (by decide) rfl hF (fun hF => ?_) (fun hF => ?_)
        · refine g_iload_n 98 C dX8_commands_97 rfl rfl rfl ?_
          obtain ⟨e1, e2⟩ := sg_pairE hF
          exact g_iret C hr rfl hQ hsz dX8_commands_98 e1.symm (by rw [e2])
        · refine g_aload_n 31 C dX8_commands_30 rfl rfl rfl ?_
          refine g_get 34 C (own := RX8) (C1 := RX8) (T := TX8) 0 22 (.int (σz 0 22)) kiX8_commands_X8 kfX8_commands_184 rfl dX8_commands_31 rfl rfl rfl (by decide) rfl ?_
          refine g_aload_n 35 C dX8_commands_34 rfl rfl rfl ?_
          refine g_get 38 C (own := RX8) (C1 := RX8) (T := TX8) 0 23 (.int (σz 0 23)) kiX8_commands_X8 kfX8_commands_187 rfl dX8_commands_35 rfl rfl rfl (by decide) rfl ?_
          refine g_icmp_ge 41 97 C dX8_commands_38 (by decide) rfl hF (fun hF => ?_) (fun hF => ?_)
          · refine g_iload_n 98 C dX8_commands_97 rfl rfl rfl ?_
            obtain ⟨e1, e2⟩ := sg_pairE hF
            exact g_iret C hr rfl hQ hsz dX8_commands_98 e1.symm (by rw [e2])
          · refine g_aload_n 42 C dX8_commands_41 rfl rfl rfl ?_
            refine g_aload_n 43 C dX8_commands_42 rfl rfl rfl ?_
            obtain ⟨r5, q6, hF⟩ := sg_bndE hF
            refine g_callVi 46 C (w2 := (ww_X8 Y ad σz)) (As := []) (st := [.ref (ad 0)]) (n0 := 0) (ci := 9) (q0 := 0) [0, 1, 2, 3, 4, 5, 6, 7, 8, 9, 10, 11, 12] [] [0, 1, 2, 3, 4, 5, 6, 7, 8, 9, 10, 11, 12] (c_X8_sign l hZ (ad := ad) q6) gX8_commands_X8_sign ⟨rfl, by decide +kernel, by decide +kernel, rfl⟩ rfl ⟨Nat.le_of_ble_eq_true rfl, Nat.le_of_ble_eq_true rfl⟩ rfl rfl ⟨rfl, rfl, rfl, by decide, rfl, rfl⟩ rfl rfl (Nat.le_of_ble_eq_true rfl) ⟨Nat.le_refl _, Nat.le_refl _⟩ dX8_commands_43 rfl rfl ?_
            refine g_bipush 48 C 59 dX8_commands_46 rfl (by decide) ?_
            refine g_icmp_eq 51 55 C dX8_commands_48 (by decide) rfl hF (fun hF => ?_) (fun hF => ?_)
            · refine g_iconst 56 C 0 dX8_commands_55 rfl (by decide) ?_
              refine g_lv (lv2 := [(0, .ref (ad 0)), (1, .int z1)]) [0, 1] rfl ?_
              exact K56 (fun z1' σz' => f_X8_commands_L16 nz z1' σz') ih z1 0 σz hF
            · refine g_iconst 52 C 1 dX8_commands_51 rfl (by decide) ?_
              refine g_goto 56 C dX8_commands_52 (by decide) ?_
              refine g_lv (lv2 := [(0, .ref (ad 0)), (1, .int z1)]) [0, 1] rfl ?_
              exact K56 (fun z1' σz' => f_X8_commands_L16 nz z1' σz') ih z1 1 σz hF
  rw [f_X8_commands] at hF
  refine g_aload_n 1 C dX8_commands_0 rfl rfl rfl ?_
  refine g_iconst 2 C 0 dX8_commands_1 rfl (by decide) ?_
  obtain ⟨σ1, eσ1, hF⟩ := sg_letE hF
  refine g_put 5 C (own := RX8) (C1 := RX8) (T := TX8) (w2 := (ww_X8 Y ad σ1)) 0 22 tyX8 tyX8_ok nmX8 kiX8_commands_X8 kfX8_commands_184 rfl rfl (ty := .int) (by decide) rfl rfl (sg_blt rfl) dX8_commands_2 rfl rfl rfl (by decide) (by rw [eσ1]; rfl) ?_
  refine g_aload_n 6 C dX8_commands_5 rfl rfl rfl ?_
  refine g_iconst 7 C 0 dX8_commands_6 rfl (by decide) ?_
  obtain ⟨σ2, eσ2, hF⟩ := sg_letE hF
  refine g_put 10 C (own := RX8) (C1 := RX8) (T := TX8) (w2 := (ww_X8 Y ad σ2)) 0 25 tyX8 tyX8_ok nmX8 kiX8_commands_X8 kfX8_commands_190 rfl rfl (ty := .boolean) (by decide) rfl rfl (sg_blt rfl) dX8_commands_7 rfl rfl rfl (by decide) (by rw [eσ2]; rfl) ?_
  refine g_iconst 11 C 1 dX8_commands_10 rfl (by decide) ?_
  refine g_istore_n 12 C [(1, .int 1), (0, .ref (ad 0))] dX8_commands_11 rfl rfl (by decide) rfl ?_
  refine g_aload_n 13 C dX8_commands_12 rfl rfl rfl ?_
  obtain ⟨τ3, q4, hF⟩ := sg_bndE hF
  refine g_callVv 16 C (w2 := (ww_X8 Y ad τ3)) (As := []) (st := []) (n0 := 0) (ci := 9) (q0 := 0) [0, 1, 2, 3, 4, 5, 6, 7, 8, 9, 10, 11, 12] [] [0, 1, 2, 3, 4, 5, 6, 7, 8, 9, 10, 11, 12] (c_X8_command l hZ (ad := ad) q4) gX8_commands_X8_command ⟨rfl, by decide +kernel, by decide +kernel, rfl⟩ rfl ⟨Nat.le_of_ble_eq_true rfl, Nat.le_of_ble_eq_true rfl⟩ rfl rfl ⟨rfl, rfl, rfl, by decide, rfl, rfl⟩ rfl rfl (Nat.le_of_ble_eq_true rfl) ⟨Nat.le_refl _, Nat.le_refl _⟩ dX8_commands_13 rfl rfl ?_
  refine g_lv (lv2 := [(0, .ref (ad 0)), (1, .int 1)]) [1, 0] rfl ?_
  exact K16  1000 1 τ3 hF
theorem kiX8_read_X8 : ∀ w ∈ u_ws RX8 TX8 27, w ∈ wsX8_read := by decide +kernel
theorem kfX8_read_172 : Cond.fieldLink RX8 172 "WeatherMinistryModel" "textN" "I" ∈ wsX8_read := by decide +kernel
theorem kfX8_read_187 : Cond.fieldLink RX8 187 "WeatherMinistryModel" "end" "I" ∈ wsX8_read := by decide +kernel
theorem kfX8_read_205 : Cond.fieldLink RX8 205 "WeatherMinistryModel" "isDoing" "Z" ∈ wsX8_read := by decide +kernel
theorem kfX8_read_190 : Cond.fieldLink RX8 190 "WeatherMinistryModel" "isWrong" "Z" ∈ wsX8_read := by decide +kernel
theorem kfX8_read_54 : Cond.fieldLink RX8 54 "WeatherMinistryModel" "fails" "I" ∈ wsX8_read := by decide +kernel
theorem kfX8_read_60 : Cond.fieldLink RX8 60 "WeatherMinistryModel" "detail" "I" ∈ wsX8_read := by decide +kernel
theorem kfX8_read_63 : Cond.fieldLink RX8 63 "WeatherMinistryModel" "behindWhy" "I" ∈ wsX8_read := by decide +kernel
theorem kfX8_read_218 : Cond.fieldLink RX8 218 "WeatherMinistryModel" "behindDetail" "I" ∈ wsX8_read := by decide +kernel
theorem kfX8_read_57 : Cond.fieldLink RX8 57 "WeatherMinistryModel" "why" "I" ∈ wsX8_read := by decide +kernel
theorem kfX8_read_184 : Cond.fieldLink RX8 184 "WeatherMinistryModel" "here" "I" ∈ wsX8_read := by decide +kernel
theorem kfX8_read_7 : Cond.fieldLink RX8 7 "WeatherMinistryModel" "faultAt" "I" ∈ wsX8_read := by decide +kernel
def f_X8_read_J85 (z1 : Int32) (t0 : Int32) (σz : sg_S) : Option (Int32 × sg_S) := sg_let (σz 0 3) (fun y13 => sg_bnd2 (f_X8_refuses 9 (z1 - 1) σz) (fun r16 τ14 => sg_let (sg_up τ14 0 4 t0) (fun σ17 => sg_let (sg_up σ17 0 5 y13) (fun σ18 => sg_bnd2 (f_X8_ends r16 σ18) (fun r21 τ19 => some (r21, τ19))))))
def f_X8_read  (σ : sg_S) : Option (Int32 × sg_S) := sg_bnd (f_X8_begins  σ) (fun τ1 => sg_let (sg_up τ1 0 23 (τ1 0 21)) (fun σ3 => sg_let (sg_up σ3 0 21 0) (fun σ4 => sg_let (sg_up σ4 0 26 0) (fun σ5 => sg_bnd2 (f_X8_commands  σ5) (fun r8 τ6 => (if τ6 0 25 = 0 then sg_let (sg_up τ6 0 26 1) (fun σ9 => sg_bnd2 (f_X8_commands  σ9) (fun r12 τ10 => (if τ10 0 0 = 0 then sg_bnd2 (f_X8_ends r12 τ10) (fun r24 τ22 => some (r24, τ22)) else (if τ10 0 0 = (-5) then f_X8_read_J85 r12 (τ10 0 2) τ10 else f_X8_read_J85 r12 0 τ10)))) else sg_let (sg_up τ6 0 6 (τ6 0 22)) (fun σ25 => some ((-2), σ25))))))))
set_option maxHeartbeats 4000000 in
set_option maxRecDepth 100000 in
theorem c_X8_read (l : Launch) {D : va_G} {Y : Nat → ClassId} {Z : (Nat → Prop) → State → Heap → Prop} (hZ : sg_Zok Z) {ad : Nat → Nat} {σ : sg_S} {σ' : sg_S} {r : Int32} (hF : f_X8_read  σ = some (r, σ')) : sg_MI l yX8_read wsX8_read 7 172 D Y Z [.ref (ad 0)] (ww_X8 Y ad σ) r (ww_X8 Y ad σ') := by
  intro sz
  refine sg_enter (own := RX8) (maxL := 5) (ret := (some .int)) (cc := cX8_read) (by decide +kernel) rfl rfl (Nat.le_of_ble_eq_true rfl) hZ ?_
  intro p e s m args below meth c C hr Q hQ hsz
  refine g_lv (lv2 := [(0, .ref (ad 0))]) [0] rfl ?_
  have K85 : ∀ (z1 : Int32) (t0 : Int32) (σz : sg_S), f_X8_read_J85 z1 t0 σz = some (r, σ') → sg_G p l e ({ frames := 7, cells := 0, slots := 0, locals := 172 } : Room) s m args below meth c D (va_A (ww_X8 Y ad σ) s.heap.size) 5 0 0 Q 85 [(0, .ref (ad 0)), (1, .int z1)] [.int t0] (ww_X8 Y ad σz) := by
    intro  z1 t0 σz hF
    rw [f_X8_read_J85] at hF
    refine g_istore_n 86 C [(2, .int t0), (0, .ref (ad 0)), (1, .int z1)] dX8_read_85 rfl rfl (by decide) rfl ?_
    refine g_aload_n 87 C dX8_read_86 rfl rfl rfl ?_
    refine g_get 90 C (own := RX8) (C1 := RX8) (T := TX8) 0 3 (.int (σz 0 3)) kiX8_read_X8 kfX8_read_60 rfl dX8_read_87 rfl rfl rfl (by decide) rfl ?_
    obtain ⟨y13, ey13, hF⟩ := sg_letE hF
    refine g_top ey13 ?_
    refine g_istore_n 91 C [(3, .int y13), (2, .int t0), (0, .ref (ad 0)), (1, .int z1)] dX8_read_90 rfl rfl (by decide) rfl ?_
    refine g_aload_n 92 C dX8_read_91 rfl rfl rfl ?_
    refine g_bipush 94 C 9 dX8_read_92 rfl (by decide) ?_
    refine g_iload_n 95 C dX8_read_94 rfl rfl rfl ?_
    refine g_iconst 96 C 1 dX8_read_95 rfl (by decide) ?_
    refine g_isub 97 C dX8_read_96 rfl ?_
    obtain ⟨r16, τ14, q15, hF⟩ := sg_bnd2E hF
    refine g_callVi 100 C (w2 := (ww_X8 Y ad τ14)) (As := [.int 9, .int (z1 - 1)]) (st := []) (n0 := 2) (ci := 9) (q0 := 0) [0, 1, 2, 3, 4, 5, 6, 7, 8, 9, 10, 11, 12] [] [0, 1, 2, 3, 4, 5, 6, 7, 8, 9, 10, 11, 12] (c_X8_refuses l hZ (ad := ad) q15) gX8_read_X8_refuses ⟨rfl, by decide +kernel, by decide +kernel, rfl⟩ rfl ⟨Nat.le_of_ble_eq_true rfl, Nat.le_of_ble_eq_true rfl⟩ rfl rfl ⟨rfl, rfl, rfl, by decide, rfl, rfl⟩ rfl rfl (Nat.le_of_ble_eq_true rfl) ⟨Nat.le_refl _, Nat.le_refl _⟩ dX8_read_97 rfl rfl ?_
    refine g_istore 102 C [(4, .int r16), (3, .int y13), (2, .int t0), (0, .ref (ad 0)), (1, .int z1)] dX8_read_100 rfl (by decide) rfl ?_
    refine g_aload_n 103 C dX8_read_102 rfl rfl rfl ?_
    refine g_iload_n 104 C dX8_read_103 rfl rfl rfl ?_
    obtain ⟨σ17, eσ17, hF⟩ := sg_letE hF
    refine g_put 107 C (own := RX8) (C1 := RX8) (T := TX8) (w2 := (ww_X8 Y ad σ17)) 0 4 tyX8 tyX8_ok nmX8 kiX8_read_X8 kfX8_read_63 rfl rfl (ty := .int) (by decide) rfl rfl (sg_blt rfl) dX8_read_104 rfl rfl rfl (by decide) (by rw [eσ17]; rfl) ?_
    refine g_aload_n 108 C dX8_read_107 rfl rfl rfl ?_
    refine g_iload_n 109 C dX8_read_108 rfl rfl rfl ?_
    obtain ⟨σ18, eσ18, hF⟩ := sg_letE hF
    refine g_put 112 C (own := RX8) (C1 := RX8) (T := TX8) (w2 := (ww_X8 Y ad σ18)) 0 5 tyX8 tyX8_ok nmX8 kiX8_read_X8 kfX8_read_218 rfl rfl (ty := .int) (by decide) rfl rfl (sg_blt rfl) dX8_read_109 rfl rfl rfl (by decide) (by rw [eσ18]; rfl) ?_
    refine g_aload_n 113 C dX8_read_112 rfl rfl rfl ?_
    refine g_iload 115 C dX8_read_113 rfl rfl ?_
    obtain ⟨r21, τ19, q20, hF⟩ := sg_bnd2E hF
    refine g_callVi 118 C (w2 := (ww_X8 Y ad τ19)) (As := [.int r16]) (st := []) (n0 := 1) (ci := 9) (q0 := 0) [0, 1, 2, 3, 4, 5, 6, 7, 8, 9, 10, 11, 12] [] [0, 1, 2, 3, 4, 5, 6, 7, 8, 9, 10, 11, 12] (c_X8_ends l hZ (ad := ad) q20) gX8_read_X8_ends ⟨rfl, by decide +kernel, by decide +kernel, rfl⟩ rfl ⟨Nat.le_of_ble_eq_true rfl, Nat.le_of_ble_eq_true rfl⟩ rfl rfl ⟨rfl, rfl, rfl, by decide, rfl, rfl⟩ rfl rfl (Nat.le_of_ble_eq_true rfl) ⟨Nat.le_refl _, Nat.le_refl _⟩ dX8_read_115 rfl rfl ?_
    obtain ⟨e1, e2⟩ := sg_pairE hF
    exact g_iret C hr rfl hQ hsz dX8_read_118 e1.symm (by rw [e2])
  rw [f_X8_read] at hF
  refine g_aload_n 1 C dX8_read_0 rfl rfl rfl ?_
  obtain ⟨τ1, q2, hF⟩ := sg_bndE hF
  refine g_callVv 4 C (w2 := (ww_X8 Y ad τ1)) (As := []) (st := []) (n0 := 0) (ci := 9) (q0 := 0) [0, 1, 2, 3, 4, 5, 6, 7, 8, 9, 10, 11, 12] [] [0, 1, 2, 3, 4, 5, 6, 7, 8, 9, 10, 11, 12] (c_X8_begins l hZ (ad := ad) q2) gX8_read_X8_begins ⟨rfl, by decide +kernel, by decide +kernel, rfl⟩ rfl ⟨Nat.le_of_ble_eq_true rfl, Nat.le_of_ble_eq_true rfl⟩ rfl rfl ⟨rfl, rfl, rfl, by decide, rfl, rfl⟩ rfl rfl (Nat.le_of_ble_eq_true rfl) ⟨Nat.le_refl _, Nat.le_refl _⟩ dX8_read_1 rfl rfl ?_
  refine g_aload_n 5 C dX8_read_4 rfl rfl rfl ?_
  refine g_aload_n 6 C dX8_read_5 rfl rfl rfl ?_
  refine g_get 9 C (own := RX8) (C1 := RX8) (T := TX8) 0 21 (.int (τ1 0 21)) kiX8_read_X8 kfX8_read_172 rfl dX8_read_6 rfl rfl rfl (by decide) rfl ?_
  obtain ⟨σ3, eσ3, hF⟩ := sg_letE hF
  refine g_put 12 C (own := RX8) (C1 := RX8) (T := TX8) (w2 := (ww_X8 Y ad σ3)) 0 23 tyX8 tyX8_ok nmX8 kiX8_read_X8 kfX8_read_187 rfl rfl (ty := .int) (by decide) rfl rfl (sg_blt rfl) dX8_read_9 rfl rfl rfl (by decide) (by rw [eσ3]; rfl) ?_
  refine g_aload_n 13 C dX8_read_12 rfl rfl rfl ?_
  refine g_iconst 14 C 0 dX8_read_13 rfl (by decide) ?_
  obtain ⟨σ4, eσ4, hF⟩ := sg_letE hF
  refine g_put 17 C (own := RX8) (C1 := RX8) (T := TX8) (w2 := (ww_X8 Y ad σ4)) 0 21 tyX8 tyX8_ok nmX8 kiX8_read_X8 kfX8_read_172 rfl rfl (ty := .int) (by decide) rfl rfl (sg_blt rfl) dX8_read_14 rfl rfl rfl (by decide) (by rw [eσ4]; rfl) ?_
  refine g_aload_n 18 C dX8_read_17 rfl rfl rfl ?_
  refine g_iconst 19 C 0 dX8_read_18 rfl (by decide) ?_
  obtain ⟨σ5, eσ5, hF⟩ := sg_letE hF
  refine g_put 22 C (own := RX8) (C1 := RX8) (T := TX8) (w2 := (ww_X8 Y ad σ5)) 0 26 tyX8 tyX8_ok nmX8 kiX8_read_X8 kfX8_read_205 rfl rfl (ty := .boolean) (by decide) rfl rfl (sg_blt rfl) dX8_read_19 rfl rfl rfl (by decide) (by rw [eσ5]; rfl) ?_
  refine g_aload_n 23 C dX8_read_22 rfl rfl rfl ?_
  obtain ⟨r8, τ6, q7, hF⟩ := sg_bnd2E hF
  refine g_callVi 26 C (w2 := (ww_X8 Y ad τ6)) (As := []) (st := []) (n0 := 0) (ci := 9) (q0 := 0) [0, 1, 2, 3, 4, 5, 6, 7, 8, 9, 10, 11, 12] [] [0, 1, 2, 3, 4, 5, 6, 7, 8, 9, 10, 11, 12] (c_X8_commands l hZ (ad := ad) q7) gX8_read_X8_commands ⟨rfl, by decide +kernel, by decide +kernel, rfl⟩ rfl ⟨Nat.le_of_ble_eq_true rfl, Nat.le_of_ble_eq_true rfl⟩ rfl rfl ⟨rfl, rfl, rfl, by decide, rfl, rfl⟩ rfl rfl (Nat.le_of_ble_eq_true rfl) ⟨Nat.le_refl _, Nat.le_refl _⟩ dX8_read_23 rfl rfl ?_
  refine g_istore_n 27 C [(1, .int r8), (0, .ref (ad 0))] dX8_read_26 rfl rfl (by decide) rfl ?_
  refine g_aload_n 28 C dX8_read_27 rfl rfl rfl ?_
  refine g_get 31 C (own := RX8) (C1 := RX8) (T := TX8) 0 25 (.int (τ6 0 25)) kiX8_read_X8 kfX8_read_190 rfl dX8_read_28 rfl rfl rfl (by decide) rfl ?_
  refine g_if_eq 34 45 C dX8_read_31 (by decide) rfl hF (fun hF => ?_) (fun hF => ?_)
  · refine g_aload_n 46 C dX8_read_45 rfl rfl rfl ?_
    refine g_iconst 47 C 1 dX8_read_46 rfl (by decide) ?_
    obtain ⟨σ9, eσ9, hF⟩ := sg_letE hF
    refine g_put 50 C (own := RX8) (C1 := RX8) (T := TX8) (w2 := (ww_X8 Y ad σ9)) 0 26 tyX8 tyX8_ok nmX8 kiX8_read_X8 kfX8_read_205 rfl rfl (ty := .boolean) (by decide) rfl rfl (sg_blt rfl) dX8_read_47 rfl rfl rfl (by decide) (by rw [eσ9]; rfl) ?_
    refine g_aload_n 51 C dX8_read_50 rfl rfl rfl ?_
    obtain ⟨r12, τ10, q11, hF⟩ := sg_bnd2E hF
    refine g_callVi 54 C (w2 := (ww_X8 Y ad τ10)) (As := []) (st := []) (n0 := 0) (ci := 9) (q0 := 0) [0, 1, 2, 3, 4, 5, 6, 7, 8, 9, 10, 11, 12] [] [0, 1, 2, 3, 4, 5, 6, 7, 8, 9, 10, 11, 12] (c_X8_commands l hZ (ad := ad) q11) gX8_read_X8_commands ⟨rfl, by decide +kernel, by decide +kernel, rfl⟩ rfl ⟨Nat.le_of_ble_eq_true rfl, Nat.le_of_ble_eq_true rfl⟩ rfl rfl ⟨rfl, rfl, rfl, by decide, rfl, rfl⟩ rfl rfl (Nat.le_of_ble_eq_true rfl) ⟨Nat.le_refl _, Nat.le_refl _⟩ dX8_read_51 rfl rfl ?_
    refine g_istore_n 55 C [(1, .int r12), (0, .ref (ad 0))] dX8_read_54 rfl rfl (by decide) rfl ?_
    refine g_aload_n 56 C dX8_read_55 rfl rfl rfl ?_
    refine g_get 59 C (own := RX8) (C1 := RX8) (T := TX8) 0 0 (.int (τ10 0 0)) kiX8_read_X8 kfX8_read_54 rfl dX8_read_56 rfl rfl rfl (by decide) rfl ?_
    refine g_if_ne 62 68 C dX8_read_59 (by decide) rfl hF (fun hF => ?_) (fun hF => ?_)
    · refine g_aload_n 69 C dX8_read_68 rfl rfl rfl ?_
      refine g_get 72 C (own := RX8) (C1 := RX8) (T := TX8) 0 0 (.int (τ10 0 0)) kiX8_read_X8 kfX8_read_54 rfl dX8_read_69 rfl rfl rfl (by decide) rfl ?_
      refine g_bipush 74 C (-5) dX8_read_72 rfl (by decide) ?_
      refine g_icmp_ne 77 84 C dX8_read_74 (by decide) rfl hF (fun hF => ?_) (fun hF => ?_)
      · refine g_iconst 85 C 0 dX8_read_84 rfl (by decide) ?_
        refine g_lv (lv2 := [(0, .ref (ad 0)), (1, .int r12)]) [1, 0] rfl ?_
        exact K85  r12 0 τ10 hF
      · refine g_aload_n 78 C dX8_read_77 rfl rfl rfl ?_
        refine g_get 81 C (own := RX8) (C1 := RX8) (T := TX8) 0 2 (.int (τ10 0 2)) kiX8_read_X8 kfX8_read_57 rfl dX8_read_78 rfl rfl rfl (by decide) rfl ?_
        refine g_goto 85 C dX8_read_81 (by decide) ?_
        refine g_lv (lv2 := [(0, .ref (ad 0)), (1, .int r12)]) [1, 0] rfl ?_
        exact K85  r12 (τ10 0 2) τ10 hF
    · refine g_aload_n 63 C dX8_read_62 rfl rfl rfl ?_
      refine g_iload_n 64 C dX8_read_63 rfl rfl rfl ?_
      obtain ⟨r24, τ22, q23, hF⟩ := sg_bnd2E hF
      refine g_callVi 67 C (w2 := (ww_X8 Y ad τ22)) (As := [.int r12]) (st := []) (n0 := 1) (ci := 9) (q0 := 0) [0, 1, 2, 3, 4, 5, 6, 7, 8, 9, 10, 11, 12] [] [0, 1, 2, 3, 4, 5, 6, 7, 8, 9, 10, 11, 12] (c_X8_ends l hZ (ad := ad) q23) gX8_read_X8_ends ⟨rfl, by decide +kernel, by decide +kernel, rfl⟩ rfl ⟨Nat.le_of_ble_eq_true rfl, Nat.le_of_ble_eq_true rfl⟩ rfl rfl ⟨rfl, rfl, rfl, by decide, rfl, rfl⟩ rfl rfl (Nat.le_of_ble_eq_true rfl) ⟨Nat.le_refl _, Nat.le_refl _⟩ dX8_read_64 rfl rfl ?_
      obtain ⟨e1, e2⟩ := sg_pairE hF
      exact g_iret C hr rfl hQ hsz dX8_read_67 e1.symm (by rw [e2])
  · refine g_aload_n 35 C dX8_read_34 rfl rfl rfl ?_
    refine g_aload_n 36 C dX8_read_35 rfl rfl rfl ?_
    refine g_get 39 C (own := RX8) (C1 := RX8) (T := TX8) 0 22 (.int (τ6 0 22)) kiX8_read_X8 kfX8_read_184 rfl dX8_read_36 rfl rfl rfl (by decide) rfl ?_
    obtain ⟨σ25, eσ25, hF⟩ := sg_letE hF
    refine g_put 42 C (own := RX8) (C1 := RX8) (T := TX8) (w2 := (ww_X8 Y ad σ25)) 0 6 tyX8 tyX8_ok nmX8 kiX8_read_X8 kfX8_read_7 rfl rfl (ty := .int) (by decide) rfl rfl (sg_blt rfl) dX8_read_39 rfl rfl rfl (by decide) (by rw [eσ25]; rfl) ?_
    refine g_bipush 44 C (-2) dX8_read_42 rfl (by decide) ?_
    obtain ⟨e1, e2⟩ := sg_pairE hF
    exact g_iret C hr rfl hQ hsz dX8_read_44 e1.symm (by rw [e2])
theorem kiX8_fault_X8 : ∀ w ∈ u_ws RX8 TX8 27, w ∈ wsX8_fault := by decide +kernel
theorem kfX8_fault_7 : Cond.fieldLink RX8 7 "WeatherMinistryModel" "faultAt" "I" ∈ wsX8_fault := by decide +kernel
def f_X8_fault  (σ : sg_S) : Option Int32 := (if σ 0 6 < 0 then some ((-3)) else some (σ 0 6))
set_option maxHeartbeats 4000000 in
set_option maxRecDepth 100000 in
theorem c_X8_fault (l : Launch) {D : va_G} {Y : Nat → ClassId} {Z : (Nat → Prop) → State → Heap → Prop} (hZ : sg_Zok Z) {ad : Nat → Nat} {σ : sg_S} {r : Int32} (hF : f_X8_fault  σ = some r) : sg_MI l yX8_fault wsX8_fault 0 0 D Y Z [.ref (ad 0)] (ww_X8 Y ad σ) r (ww_X8 Y ad σ) := by
  intro sz
  refine sg_enter (own := RX8) (maxL := 1) (ret := (some .int)) (cc := cX8_fault) (by decide +kernel) rfl rfl (Nat.le_of_ble_eq_true rfl) hZ ?_
  intro p e s m args below meth c C hr Q hQ hsz
  refine g_lv (lv2 := [(0, .ref (ad 0))]) [0] rfl ?_
  rw [f_X8_fault] at hF
  refine g_aload_n 1 C dX8_fault_0 rfl rfl rfl ?_
  refine g_get 4 C (own := RX8) (C1 := RX8) (T := TX8) 0 6 (.int (σ 0 6)) kiX8_fault_X8 kfX8_fault_7 rfl dX8_fault_1 rfl rfl rfl (by decide) rfl ?_
  refine g_if_ge 7 12 C dX8_fault_4 (by decide) rfl hF (fun hF => ?_) (fun hF => ?_)
  · refine g_aload_n 13 C dX8_fault_12 rfl rfl rfl ?_
    refine g_get 16 C (own := RX8) (C1 := RX8) (T := TX8) 0 6 (.int (σ 0 6)) kiX8_fault_X8 kfX8_fault_7 rfl dX8_fault_13 rfl rfl rfl (by decide) rfl ?_
    have e1 := sg_someE hF
    exact g_iret C hr rfl hQ hsz dX8_fault_16 e1.symm rfl
  · refine g_bipush 9 C (-3) dX8_fault_7 rfl (by decide) ?_
    refine g_goto 16 C dX8_fault_9 (by decide) ?_
    have e1 := sg_someE hF
    exact g_iret C hr rfl hQ hsz dX8_fault_16 e1.symm rfl
theorem kiX8_reason_X8 : ∀ w ∈ u_ws RX8 TX8 27, w ∈ wsX8_reason := by decide +kernel
theorem kfX8_reason_57 : Cond.fieldLink RX8 57 "WeatherMinistryModel" "why" "I" ∈ wsX8_reason := by decide +kernel
theorem kfX8_reason_63 : Cond.fieldLink RX8 63 "WeatherMinistryModel" "behindWhy" "I" ∈ wsX8_reason := by decide +kernel
theorem kfX8_reason_218 : Cond.fieldLink RX8 218 "WeatherMinistryModel" "behindDetail" "I" ∈ wsX8_reason := by decide +kernel
theorem kfX8_reason_60 : Cond.fieldLink RX8 60 "WeatherMinistryModel" "detail" "I" ∈ wsX8_reason := by decide +kernel
def f_X8_reason (x1 : Int32) (x2 : Int32) (σ : sg_S) : Option Int32 := sg_bnd (f_X8_isIn x1 0 1) (fun r1 => (if r1 = 0 then some ((-2)) else (if σ 0 2 = 0 then some ((-3)) else (if x1 = 0 then (if x2 = 0 then some (σ 0 2) else some (σ 0 3)) else (if σ 0 4 = 0 then some ((-6)) else (if x2 = 0 then some (σ 0 4) else some (σ 0 5)))))))
set_option maxHeartbeats 4000000 in
set_option maxRecDepth 100000 in
theorem c_X8_reason (l : Launch) {D : va_G} {Y : Nat → ClassId} {Z : (Nat → Prop) → State → Heap → Prop} (hZ : sg_Zok Z) {ad : Nat → Nat} {σ : sg_S} {x1 x2 : Int32} {r : Int32} (hF : f_X8_reason x1 x2 σ = some r) : sg_MI l yX8_reason wsX8_reason 1 22 D Y Z [.ref (ad 0), .int x1, .int x2] (ww_X8 Y ad σ) r (ww_X8 Y ad σ) := by
  intro sz
  refine sg_enter (own := RX8) (maxL := 3) (ret := (some .int)) (cc := cX8_reason) (by decide +kernel) rfl rfl (Nat.le_of_ble_eq_true rfl) hZ ?_
  intro p e s m args below meth c C hr Q hQ hsz
  refine g_lv (lv2 := [(0, .ref (ad 0)), (1, .int x1), (2, .int x2)]) [0, 1, 2] rfl ?_
  rw [f_X8_reason] at hF
  refine g_iload_n 1 C dX8_reason_0 rfl rfl rfl ?_
  refine g_iconst 2 C 0 dX8_reason_1 rfl (by decide) ?_
  refine g_iconst 3 C 1 dX8_reason_2 rfl (by decide) ?_
  obtain ⟨r1, q2, hF⟩ := sg_bndE hF
  refine g_callSi 6 C (w2 := (ww_X8 Y ad σ)) (As := [.int x1, .int 0, .int 1]) (st := []) (n0 := 3) [] [0, 1, 2, 3, 4, 5, 6, 7, 8, 9, 10, 11, 12] [0, 1, 2, 3, 4, 5, 6, 7, 8, 9, 10, 11, 12] (c_X8_isIn l hZ (ad := ad) (σ := σ) q2) gX8_reason_X8_isIn ⟨by decide +kernel, by decide +kernel, rfl⟩ rfl ⟨Nat.le_of_ble_eq_true rfl, Nat.le_of_ble_eq_true rfl⟩ ⟨rfl, rfl, rfl, by decide, rfl, rfl⟩ rfl rfl (Nat.le_of_ble_eq_true rfl) ⟨Nat.le_refl _, Nat.le_refl _⟩ dX8_reason_3 rfl rfl ?_
  refine g_if_ne 9 12 C dX8_reason_6 (by decide) rfl hF (fun hF => ?_) (fun hF => ?_)
  · refine g_aload_n 13 C dX8_reason_12 rfl rfl rfl ?_
    refine g_get 16 C (own := RX8) (C1 := RX8) (T := TX8) 0 2 (.int (σ 0 2)) kiX8_reason_X8 kfX8_reason_57 rfl dX8_reason_13 rfl rfl rfl (by decide) rfl ?_
    refine g_if_ne 19 22 C dX8_reason_16 (by decide) rfl hF (fun hF => ?_) (fun hF => ?_)
    · refine g_iload_n 23 C dX8_reason_22 rfl rfl rfl ?_
      refine g_if_ne 26 42 C dX8_reason_23 (by decide) rfl hF (fun hF => ?_) (fun hF => ?_)
      · refine g_aload_n 43 C dX8_reason_42 rfl rfl rfl ?_
        refine g_get 46 C (own := RX8) (C1 := RX8) (T := TX8) 0 4 (.int (σ 0 4)) kiX8_reason_X8 kfX8_reason_63 rfl dX8_reason_43 rfl rfl rfl (by decide) rfl ?_
        refine g_if_ne 49 54 C dX8_reason_46 (by decide) rfl hF (fun hF => ?_) (fun hF => ?_)
        · refine g_iload_n 55 C dX8_reason_54 rfl rfl rfl ?_
          refine g_if_eq 58 65 C dX8_reason_55 (by decide) rfl hF (fun hF => ?_) (fun hF => ?_)
          · refine g_aload_n 66 C dX8_reason_65 rfl rfl rfl ?_
            refine g_get 69 C (own := RX8) (C1 := RX8) (T := TX8) 0 4 (.int (σ 0 4)) kiX8_reason_X8 kfX8_reason_63 rfl dX8_reason_66 rfl rfl rfl (by decide) rfl ?_
            have e1 := sg_someE hF
            exact g_iret C hr rfl hQ hsz dX8_reason_69 e1.symm rfl
          · refine g_aload_n 59 C dX8_reason_58 rfl rfl rfl ?_
            refine g_get 62 C (own := RX8) (C1 := RX8) (T := TX8) 0 5 (.int (σ 0 5)) kiX8_reason_X8 kfX8_reason_218 rfl dX8_reason_59 rfl rfl rfl (by decide) rfl ?_
            refine g_goto 69 C dX8_reason_62 (by decide) ?_
            have e1 := sg_someE hF
            exact g_iret C hr rfl hQ hsz dX8_reason_69 e1.symm rfl
        · refine g_bipush 51 C (-6) dX8_reason_49 rfl (by decide) ?_
          refine g_goto 69 C dX8_reason_51 (by decide) ?_
          have e1 := sg_someE hF
          exact g_iret C hr rfl hQ hsz dX8_reason_69 e1.symm rfl
      · refine g_iload_n 27 C dX8_reason_26 rfl rfl rfl ?_
        refine g_if_eq 30 37 C dX8_reason_27 (by decide) rfl hF (fun hF => ?_) (fun hF => ?_)
        · refine g_aload_n 38 C dX8_reason_37 rfl rfl rfl ?_
          refine g_get 41 C (own := RX8) (C1 := RX8) (T := TX8) 0 2 (.int (σ 0 2)) kiX8_reason_X8 kfX8_reason_57 rfl dX8_reason_38 rfl rfl rfl (by decide) rfl ?_
          have e1 := sg_someE hF
          exact g_iret C hr rfl hQ hsz dX8_reason_41 e1.symm rfl
        · refine g_aload_n 31 C dX8_reason_30 rfl rfl rfl ?_
          refine g_get 34 C (own := RX8) (C1 := RX8) (T := TX8) 0 3 (.int (σ 0 3)) kiX8_reason_X8 kfX8_reason_60 rfl dX8_reason_31 rfl rfl rfl (by decide) rfl ?_
          refine g_goto 41 C dX8_reason_34 (by decide) ?_
          have e1 := sg_someE hF
          exact g_iret C hr rfl hQ hsz dX8_reason_41 e1.symm rfl
    · refine g_bipush 21 C (-3) dX8_reason_19 rfl (by decide) ?_
      have e1 := sg_someE hF
      exact g_iret C hr rfl hQ hsz dX8_reason_21 e1.symm rfl
  · refine g_bipush 11 C (-2) dX8_reason_9 rfl (by decide) ?_
    have e1 := sg_someE hF
    exact g_iret C hr rfl hQ hsz dX8_reason_11 e1.symm rfl
theorem kiX8_undo_X8 : ∀ w ∈ u_ws RX8 TX8 27, w ∈ wsX8_undo := by decide +kernel
theorem kfX8_undo_74 : Cond.fieldLink RX8 74 "WeatherMinistryModel" "changes" "I" ∈ wsX8_undo := by decide +kernel
theorem kfX8_undo_13 : Cond.fieldLink RX8 13 "WeatherMinistryModel" "v" "[I" ∈ wsX8_undo := by decide +kernel
theorem kfX8_undo_26 : Cond.fieldLink RX8 26 "WeatherMinistryModel" "past" "[I" ∈ wsX8_undo := by decide +kernel
def f_X8_undo_L22 : Nat → Int32 → sg_S → Option (Int32 × sg_S)
  | 0, _, _ => none
  | nz + 1, z1, σz => (if z1 < 79 then sg_grd (sg_in (((σz 0 1) * 79) + z1) 632) (sg_grd (sg_in z1 79) (sg_let (sg_up σz 1 (z1.toNatClampNeg) (σz 5 (((σz 0 1) * 79) + z1).toNatClampNeg)) (fun σ4 => f_X8_undo_L22 nz (z1 + 1) σ4))) else some (σz 0 1, σz))
def f_X8_undo  (σ : sg_S) : Option (Int32 × sg_S) := (if σ 0 1 = 0 then some ((-3), σ) else sg_let (sg_up σ 0 1 ((σ 0 1) - 1)) (fun σ1 => f_X8_undo_L22 1000 0 σ1))
set_option maxHeartbeats 4000000 in
set_option maxRecDepth 100000 in
theorem c_X8_undo (l : Launch) {D : va_G} {Y : Nat → ClassId} {Z : (Nat → Prop) → State → Heap → Prop} (hZ : sg_Zok Z) {ad : Nat → Nat} {σ : sg_S} {σ' : sg_S} {r : Int32} (hF : f_X8_undo  σ = some (r, σ')) : sg_MI l yX8_undo wsX8_undo 0 0 D Y Z [.ref (ad 0)] (ww_X8 Y ad σ) r (ww_X8 Y ad σ') := by
  intro sz
  refine sg_enter (own := RX8) (maxL := 2) (ret := (some .int)) (cc := cX8_undo) (by decide +kernel) rfl rfl (Nat.le_of_ble_eq_true rfl) hZ ?_
  intro p e s m args below meth c C hr Q hQ hsz
  refine g_lv (lv2 := [(0, .ref (ad 0))]) [0] rfl ?_
  have K22 : ∀ (nz : Nat), ∀ (z1 : Int32) (σz : sg_S), f_X8_undo_L22 nz z1 σz = some (r, σ') → sg_G p l e ({ frames := 0, cells := 0, slots := 0, locals := 0 } : Room) s m args below meth c D (va_A (ww_X8 Y ad σ) s.heap.size) 2 0 0 Q 22 [(0, .ref (ad 0)), (1, .int z1)] [] (ww_X8 Y ad σz) := by
    intro nz
    induction nz with
    | zero =>
      intro z1 σz hF
      rw [f_X8_undo_L22.eq_1] at hF
      exact nomatch hF
    | succ nz ih =>
      intro z1 σz hF
      rw [f_X8_undo_L22.eq_2] at hF
      refine g_iload_n 23 C dX8_undo_22 rfl rfl rfl ?_
      refine g_bipush 25 C 79 dX8_undo_23 rfl (by decide) ?_
      refine g_icmp_ge 28 54 C dX8_undo_25 (by decide) rfl hF (fun hF => ?_) (fun hF => ?_)
      · refine g_aload_n 55 C dX8_undo_54 rfl rfl rfl ?_
        refine g_get 58 C (own := RX8) (C1 := RX8) (T := TX8) 0 1 (.int (σz 0 1)) kiX8_undo_X8 kfX8_undo_74 rfl dX8_undo_55 rfl rfl rfl (by decide) rfl ?_
        obtain ⟨e1, e2⟩ := sg_pairE hF
        exact g_iret C hr rfl hQ hsz dX8_undo_58 e1.symm (by rw [e2])
      · refine g_aload_n 29 C dX8_undo_28 rfl rfl rfl ?_
        refine g_get 32 C (own := RX8) (C1 := RX8) (T := TX8) 0 8 (.ref (ad 1)) kiX8_undo_X8 kfX8_undo_13 rfl dX8_undo_29 rfl rfl rfl (by decide) rfl ?_
        refine g_iload_n 33 C dX8_undo_32 rfl rfl rfl ?_
        refine g_aload_n 34 C dX8_undo_33 rfl rfl rfl ?_
        refine g_get 37 C (own := RX8) (C1 := RX8) (T := TX8) 0 12 (.ref (ad 5)) kiX8_undo_X8 kfX8_undo_26 rfl dX8_undo_34 rfl rfl rfl (by decide) rfl ?_
        refine g_aload_n 38 C dX8_undo_37 rfl rfl rfl ?_
        refine g_get 41 C (own := RX8) (C1 := RX8) (T := TX8) 0 1 (.int (σz 0 1)) kiX8_undo_X8 kfX8_undo_74 rfl dX8_undo_38 rfl rfl rfl (by decide) rfl ?_
        refine g_bipush 43 C 79 dX8_undo_41 rfl (by decide) ?_
        refine g_imul 44 C dX8_undo_43 rfl ?_
        refine g_iload_n 45 C dX8_undo_44 rfl rfl rfl ?_
        refine g_iadd 46 C dX8_undo_45 rfl ?_
        obtain ⟨h2, hF⟩ := sg_grdE hF
        refine g_ialdc 47 C 5 ((((σz 0 1) * 79) + z1).toNatClampNeg) (σz 5 (((σz 0 1) * 79) + z1).toNatClampNeg) dX8_undo_46 rfl rfl rfl h2 rfl ?_
        obtain ⟨h3, hF⟩ := sg_grdE hF
        obtain ⟨σ4, eσ4, hF⟩ := sg_letE hF
        refine g_iast 48 C (w2 := (ww_X8 Y ad σ4)) 1 dX8_undo_47 rfl rfl h3 (by rw [eσ4]; rfl) ?_
        refine g_iinc 51 C 1 (z1 + 1) [(1, .int (z1 + 1)), (0, .ref (ad 0))] dX8_undo_48 rfl rfl rfl (by decide) rfl ?_
        refine g_goto 22 C dX8_undo_51 (by decide) ?_
        refine g_lv (lv2 := [(0, .ref (ad 0)), (1, .int (z1 + 1))]) [1, 0] rfl ?_
        exact ih (z1 + 1) σ4 hF
  rw [f_X8_undo] at hF
  refine g_aload_n 1 C dX8_undo_0 rfl rfl rfl ?_
  refine g_get 4 C (own := RX8) (C1 := RX8) (T := TX8) 0 1 (.int (σ 0 1)) kiX8_undo_X8 kfX8_undo_74 rfl dX8_undo_1 rfl rfl rfl (by decide) rfl ?_
  refine g_if_ne 7 10 C dX8_undo_4 (by decide) rfl hF (fun hF => ?_) (fun hF => ?_)
  · refine g_aload_n 11 C dX8_undo_10 rfl rfl rfl ?_
    refine g_dup 12 C dX8_undo_11 rfl rfl ?_
    refine g_get 15 C (own := RX8) (C1 := RX8) (T := TX8) 0 1 (.int (σ 0 1)) kiX8_undo_X8 kfX8_undo_74 rfl dX8_undo_12 rfl rfl rfl (by decide) rfl ?_
    refine g_iconst 16 C 1 dX8_undo_15 rfl (by decide) ?_
    refine g_isub 17 C dX8_undo_16 rfl ?_
    obtain ⟨σ1, eσ1, hF⟩ := sg_letE hF
    refine g_put 20 C (own := RX8) (C1 := RX8) (T := TX8) (w2 := (ww_X8 Y ad σ1)) 0 1 tyX8 tyX8_ok nmX8 kiX8_undo_X8 kfX8_undo_74 rfl rfl (ty := .int) (by decide) rfl rfl (sg_blt rfl) dX8_undo_17 rfl rfl rfl (by decide) (by rw [eσ1]; rfl) ?_
    refine g_iconst 21 C 0 dX8_undo_20 rfl (by decide) ?_
    refine g_istore_n 22 C [(1, .int 0), (0, .ref (ad 0))] dX8_undo_21 rfl rfl (by decide) rfl ?_
    refine g_lv (lv2 := [(0, .ref (ad 0)), (1, .int 0)]) [1, 0] rfl ?_
    exact K22  1000 0 σ1 hF
  · refine g_bipush 9 C (-3) dX8_undo_7 rfl (by decide) ?_
    obtain ⟨e1, e2⟩ := sg_pairE hF
    exact g_iret C hr rfl hQ hsz dX8_undo_9 e1.symm (by rw [e2])
theorem kiX8_save_X8 : ∀ w ∈ u_ws RX8 TX8 27, w ∈ wsX8_save := by decide +kernel
theorem kfX8_save_20 : Cond.fieldLink RX8 20 "WeatherMinistryModel" "saved" "[I" ∈ wsX8_save := by decide +kernel
theorem kfX8_save_13 : Cond.fieldLink RX8 13 "WeatherMinistryModel" "v" "[I" ∈ wsX8_save := by decide +kernel
theorem kfX8_save_221 : Cond.fieldLink RX8 221 "WeatherMinistryModel" "isSaved" "Z" ∈ wsX8_save := by decide +kernel
def f_X8_save  (σ : sg_S) : Option (Int32 × sg_S) := sg_bnd (f_X8_lays  (sg_e2 1 3 1 σ)) (fun τ1 => sg_let (sg_m2 3 1 1 1 σ τ1) (fun σ3 => sg_let (sg_up σ3 0 7 1) (fun σ4 => some (σ4 1 0, σ4))))
set_option maxHeartbeats 4000000 in
set_option maxRecDepth 100000 in
theorem c_X8_save (l : Launch) {D : va_G} {Y : Nat → ClassId} {Z : (Nat → Prop) → State → Heap → Prop} (hZ : sg_Zok Z) {ad : Nat → Nat} {σ : sg_S} {σ' : sg_S} {r : Int32} (hF : f_X8_save  σ = some (r, σ')) : sg_MI l yX8_save wsX8_save 1 22 D Y Z [.ref (ad 0)] (ww_X8 Y ad σ) r (ww_X8 Y ad σ') := by
  intro sz
  refine sg_enter (own := RX8) (maxL := 1) (ret := (some .int)) (cc := cX8_save) (by decide +kernel) rfl rfl (Nat.le_of_ble_eq_true rfl) hZ ?_
  intro p e s m args below meth c C hr Q hQ hsz
  refine g_lv (lv2 := [(0, .ref (ad 0))]) [0] rfl ?_
  rw [f_X8_save] at hF
  refine g_aload_n 1 C dX8_save_0 rfl rfl rfl ?_
  refine g_get 4 C (own := RX8) (C1 := RX8) (T := TX8) 0 10 (.ref (ad 3)) kiX8_save_X8 kfX8_save_20 rfl dX8_save_1 rfl rfl rfl (by decide) rfl ?_
  refine g_aload_n 5 C dX8_save_4 rfl rfl rfl ?_
  refine g_get 8 C (own := RX8) (C1 := RX8) (T := TX8) 0 8 (.ref (ad 1)) kiX8_save_X8 kfX8_save_13 rfl dX8_save_5 rfl rfl rfl (by decide) rfl ?_
  obtain ⟨τ1, q2, hF⟩ := sg_bndE hF
  obtain ⟨σ3, eσ3, hF⟩ := sg_letE hF
  refine g_callSv 11 C (w2 := (ww_X8 Y ad σ3)) (As := [.ref (ad 3), .ref (ad 1)]) (st := []) (n0 := 2) [3, 1] [0, 2, 4, 5, 6, 7, 8, 9, 10, 11, 12] [0, 12, 1, 11, 2, 3, 4, 5, 6, 7, 8, 9, 10] (c_X8_lays l hZ (ad := (sg_e2 1 3 1 ad)) q2) gX8_save_X8_lays ⟨by decide +kernel, by decide +kernel, rfl⟩ rfl ⟨Nat.le_of_ble_eq_true rfl, Nat.le_of_ble_eq_true rfl⟩ (by subst eσ3; exact ⟨rfl, rfl, rfl, by decide, rfl, rfl⟩) rfl rfl (Nat.le_of_ble_eq_true rfl) ⟨Nat.le_refl _, Nat.le_refl _⟩ dX8_save_8 rfl rfl ?_
  refine g_aload_n 12 C dX8_save_11 rfl rfl rfl ?_
  refine g_iconst 13 C 1 dX8_save_12 rfl (by decide) ?_
  obtain ⟨σ4, eσ4, hF⟩ := sg_letE hF
  refine g_put 16 C (own := RX8) (C1 := RX8) (T := TX8) (w2 := (ww_X8 Y ad σ4)) 0 7 tyX8 tyX8_ok nmX8 kiX8_save_X8 kfX8_save_221 rfl rfl (ty := .boolean) (by decide) rfl rfl (sg_blt rfl) dX8_save_13 rfl rfl rfl (by decide) (by rw [eσ4]; rfl) ?_
  refine g_aload_n 17 C dX8_save_16 rfl rfl rfl ?_
  refine g_get 20 C (own := RX8) (C1 := RX8) (T := TX8) 0 8 (.ref (ad 1)) kiX8_save_X8 kfX8_save_13 rfl dX8_save_17 rfl rfl rfl (by decide) rfl ?_
  refine g_iconst 21 C 0 dX8_save_20 rfl (by decide) ?_
  refine g_ialdc 22 C 1 (0) (σ4 1 0) dX8_save_21 rfl rfl (by decide) (by decide) rfl ?_
  obtain ⟨e1, e2⟩ := sg_pairE hF
  exact g_iret C hr rfl hQ hsz dX8_save_22 e1.symm (by rw [e2])
theorem kiX8_restore_X8 : ∀ w ∈ u_ws RX8 TX8 27, w ∈ wsX8_restore := by decide +kernel
theorem kfX8_restore_221 : Cond.fieldLink RX8 221 "WeatherMinistryModel" "isSaved" "Z" ∈ wsX8_restore := by decide +kernel
theorem kfX8_restore_13 : Cond.fieldLink RX8 13 "WeatherMinistryModel" "v" "[I" ∈ wsX8_restore := by decide +kernel
theorem kfX8_restore_20 : Cond.fieldLink RX8 20 "WeatherMinistryModel" "saved" "[I" ∈ wsX8_restore := by decide +kernel
theorem kfX8_restore_74 : Cond.fieldLink RX8 74 "WeatherMinistryModel" "changes" "I" ∈ wsX8_restore := by decide +kernel
def f_X8_restore  (σ : sg_S) : Option (Int32 × sg_S) := (if σ 0 7 = 0 then some ((-3), σ) else sg_bnd (f_X8_lays  (sg_e2 1 1 3 σ)) (fun τ1 => sg_let (sg_m2 1 1 3 1 σ τ1) (fun σ3 => sg_let (sg_up σ3 0 1 0) (fun σ4 => some (σ4 1 0, σ4)))))
set_option maxHeartbeats 4000000 in
set_option maxRecDepth 100000 in
theorem c_X8_restore (l : Launch) {D : va_G} {Y : Nat → ClassId} {Z : (Nat → Prop) → State → Heap → Prop} (hZ : sg_Zok Z) {ad : Nat → Nat} {σ : sg_S} {σ' : sg_S} {r : Int32} (hF : f_X8_restore  σ = some (r, σ')) : sg_MI l yX8_restore wsX8_restore 1 22 D Y Z [.ref (ad 0)] (ww_X8 Y ad σ) r (ww_X8 Y ad σ') := by
  intro sz
  refine sg_enter (own := RX8) (maxL := 1) (ret := (some .int)) (cc := cX8_restore) (by decide +kernel) rfl rfl (Nat.le_of_ble_eq_true rfl) hZ ?_
  intro p e s m args below meth c C hr Q hQ hsz
  refine g_lv (lv2 := [(0, .ref (ad 0))]) [0] rfl ?_
  rw [f_X8_restore] at hF
  refine g_aload_n 1 C dX8_restore_0 rfl rfl rfl ?_
  refine g_get 4 C (own := RX8) (C1 := RX8) (T := TX8) 0 7 (.int (σ 0 7)) kiX8_restore_X8 kfX8_restore_221 rfl dX8_restore_1 rfl rfl rfl (by decide) rfl ?_
  refine g_if_ne 7 10 C dX8_restore_4 (by decide) rfl hF (fun hF => ?_) (fun hF => ?_)
  · refine g_aload_n 11 C dX8_restore_10 rfl rfl rfl ?_
    refine g_get 14 C (own := RX8) (C1 := RX8) (T := TX8) 0 8 (.ref (ad 1)) kiX8_restore_X8 kfX8_restore_13 rfl dX8_restore_11 rfl rfl rfl (by decide) rfl ?_
    refine g_aload_n 15 C dX8_restore_14 rfl rfl rfl ?_
    refine g_get 18 C (own := RX8) (C1 := RX8) (T := TX8) 0 10 (.ref (ad 3)) kiX8_restore_X8 kfX8_restore_20 rfl dX8_restore_15 rfl rfl rfl (by decide) rfl ?_
    obtain ⟨τ1, q2, hF⟩ := sg_bndE hF
    obtain ⟨σ3, eσ3, hF⟩ := sg_letE hF
    refine g_callSv 21 C (w2 := (ww_X8 Y ad σ3)) (As := [.ref (ad 1), .ref (ad 3)]) (st := []) (n0 := 2) [1, 3] [0, 2, 4, 5, 6, 7, 8, 9, 10, 11, 12] [0, 11, 1, 12, 2, 3, 4, 5, 6, 7, 8, 9, 10] (c_X8_lays l hZ (ad := (sg_e2 1 1 3 ad)) q2) gX8_restore_X8_lays ⟨by decide +kernel, by decide +kernel, rfl⟩ rfl ⟨Nat.le_of_ble_eq_true rfl, Nat.le_of_ble_eq_true rfl⟩ (by subst eσ3; exact ⟨rfl, rfl, rfl, by decide, rfl, rfl⟩) rfl rfl (Nat.le_of_ble_eq_true rfl) ⟨Nat.le_refl _, Nat.le_refl _⟩ dX8_restore_18 rfl rfl ?_
    refine g_aload_n 22 C dX8_restore_21 rfl rfl rfl ?_
    refine g_iconst 23 C 0 dX8_restore_22 rfl (by decide) ?_
    obtain ⟨σ4, eσ4, hF⟩ := sg_letE hF
    refine g_put 26 C (own := RX8) (C1 := RX8) (T := TX8) (w2 := (ww_X8 Y ad σ4)) 0 1 tyX8 tyX8_ok nmX8 kiX8_restore_X8 kfX8_restore_74 rfl rfl (ty := .int) (by decide) rfl rfl (sg_blt rfl) dX8_restore_23 rfl rfl rfl (by decide) (by rw [eσ4]; rfl) ?_
    refine g_aload_n 27 C dX8_restore_26 rfl rfl rfl ?_
    refine g_get 30 C (own := RX8) (C1 := RX8) (T := TX8) 0 8 (.ref (ad 1)) kiX8_restore_X8 kfX8_restore_13 rfl dX8_restore_27 rfl rfl rfl (by decide) rfl ?_
    refine g_iconst 31 C 0 dX8_restore_30 rfl (by decide) ?_
    refine g_ialdc 32 C 1 (0) (σ4 1 0) dX8_restore_31 rfl rfl (by decide) (by decide) rfl ?_
    obtain ⟨e1, e2⟩ := sg_pairE hF
    exact g_iret C hr rfl hQ hsz dX8_restore_32 e1.symm (by rw [e2])
  · refine g_bipush 9 C (-3) dX8_restore_7 rfl (by decide) ?_
    obtain ⟨e1, e2⟩ := sg_pairE hF
    exact g_iret C hr rfl hQ hsz dX8_restore_9 e1.symm (by rw [e2])
