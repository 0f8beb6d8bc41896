theorem kiX0_copyFrom_X0 : ∀ w ∈ u_ws RX0 TX0 8, w ∈ wsX0_copyFrom := by decide +kernel
theorem kfX0_copyFrom_9 : Cond.fieldLink RX0 9 "WeatherMinistry$Books" "got" "I" ∈ wsX0_copyFrom := by decide +kernel
theorem kfX0_copyFrom_15 : Cond.fieldLink RX0 15 "WeatherMinistry$Books" "paid" "I" ∈ wsX0_copyFrom := by decide +kernel
theorem kfX0_copyFrom_18 : Cond.fieldLink RX0 18 "WeatherMinistry$Books" "spent" "I" ∈ wsX0_copyFrom := by decide +kernel
theorem kfX0_copyFrom_21 : Cond.fieldLink RX0 21 "WeatherMinistry$Books" "taken" "I" ∈ wsX0_copyFrom := by decide +kernel
theorem kfX0_copyFrom_24 : Cond.fieldLink RX0 24 "WeatherMinistry$Books" "broken" "I" ∈ wsX0_copyFrom := by decide +kernel
theorem kfX0_copyFrom_27 : Cond.fieldLink RX0 27 "WeatherMinistry$Books" "rainedBack" "I" ∈ wsX0_copyFrom := by decide +kernel
theorem kfX0_copyFrom_30 : Cond.fieldLink RX0 30 "WeatherMinistry$Books" "ended" "I" ∈ wsX0_copyFrom := by decide +kernel
theorem kfX0_copyFrom_33 : Cond.fieldLink RX0 33 "WeatherMinistry$Books" "endedInFull" "I" ∈ wsX0_copyFrom := by decide +kernel
def f_X0_copyFrom  (σ : sg_S) : Option sg_S := sg_let (sg_up σ 0 0 (σ 1 0)) (fun σ1 => sg_let (sg_up σ1 0 1 (σ1 1 1)) (fun σ2 => sg_let (sg_up σ2 0 2 (σ2 1 2)) (fun σ3 => sg_let (sg_up σ3 0 3 (σ3 1 3)) (fun σ4 => sg_let (sg_up σ4 0 4 (σ4 1 4)) (fun σ5 => sg_let (sg_up σ5 0 5 (σ5 1 5)) (fun σ6 => sg_let (sg_up σ6 0 6 (σ6 1 6)) (fun σ7 => sg_let (sg_up σ7 0 7 (σ7 1 7)) (fun σ8 => some σ8))))))))
set_option maxHeartbeats 4000000 in
set_option maxRecDepth 100000 in
theorem c_X0_copyFrom (l : Launch) {D : va_G} {Y : Nat → ClassId} {Z : (Nat → Prop) → State → Heap → Prop} (hZ : sg_Zok Z) {ad : Nat → Nat} {σ : sg_S} {σ' : sg_S} (hF : f_X0_copyFrom  σ = some σ') : sg_MV l yX0_copyFrom wsX0_copyFrom 0 0 D Y Z [.ref (ad 0), .ref (ad 1)] (ww_X0c Y ad σ) (ww_X0c Y ad σ') := by
  intro sz
  refine sg_enter (own := RX0) (maxL := 2) (ret := none) (cc := cX0_copyFrom) (by decide +kernel) rfl rfl (Nat.le_of_ble_eq_true rfl) hZ ?_
  intro p e s m args below meth c C hr Q hQ hsz
  refine g_lv (lv2 := [(0, .ref (ad 0)), (1, .ref (ad 1))]) [0, 1] rfl ?_
  rw [f_X0_copyFrom] at hF
  refine g_aload_n 1 C dX0_copyFrom_0 rfl rfl rfl ?_
  refine g_aload_n 2 C dX0_copyFrom_1 rfl rfl rfl ?_
  refine g_get 5 C (own := RX0) (C1 := RX0) (T := TX0) 1 0 (.int (σ 1 0)) kiX0_copyFrom_X0 kfX0_copyFrom_9 rfl dX0_copyFrom_2 rfl rfl rfl (by decide) rfl ?_
  obtain ⟨σ1, eσ1, hF⟩ := sg_letE hF
  refine g_put 8 C (own := RX0) (C1 := RX0) (T := TX0) (w2 := (ww_X0c Y ad σ1)) 0 0 tyX0 tyX0_ok nmX0 kiX0_copyFrom_X0 kfX0_copyFrom_9 rfl rfl (ty := .int) (by decide) rfl rfl (sg_blt rfl) dX0_copyFrom_5 rfl rfl rfl (by decide) (by rw [eσ1]; rfl) ?_
  refine g_aload_n 9 C dX0_copyFrom_8 rfl rfl rfl ?_
  refine g_aload_n 10 C dX0_copyFrom_9 rfl rfl rfl ?_
  refine g_get 13 C (own := RX0) (C1 := RX0) (T := TX0) 1 1 (.int (σ1 1 1)) kiX0_copyFrom_X0 kfX0_copyFrom_15 rfl dX0_copyFrom_10 rfl rfl rfl (by decide) rfl ?_
  obtain ⟨σ2, eσ2, hF⟩ := sg_letE hF
  refine g_put 16 C (own := RX0) (C1 := RX0) (T := TX0) (w2 := (ww_X0c Y ad σ2)) 0 1 tyX0 tyX0_ok nmX0 kiX0_copyFrom_X0 kfX0_copyFrom_15 rfl rfl (ty := .int) (by decide) rfl rfl (sg_blt rfl) dX0_copyFrom_13 rfl rfl rfl (by decide) (by rw [eσ2]; rfl) ?_
  refine g_aload_n 17 C dX0_copyFrom_16 rfl rfl rfl ?_
  refine g_aload_n 18 C dX0_copyFrom_17 rfl rfl rfl ?_
  refine g_get 21 C (own := RX0) (C1 := RX0) (T := TX0) 1 2 (.int (σ2 1 2)) kiX0_copyFrom_X0 kfX0_copyFrom_18 rfl dX0_copyFrom_18 rfl rfl rfl (by decide) rfl ?_
  obtain ⟨σ3, eσ3, hF⟩ := sg_letE hF
  refine g_put 24 C (own := RX0) (C1 := RX0) (T := TX0) (w2 := (ww_X0c Y ad σ3)) 0 2 tyX0 tyX0_ok nmX0 kiX0_copyFrom_X0 kfX0_copyFrom_18 rfl rfl (ty := .int) (by decide) rfl rfl (sg_blt rfl) dX0_copyFrom_21 rfl rfl rfl (by decide) (by rw [eσ3]; rfl) ?_
  refine g_aload_n 25 C dX0_copyFrom_24 rfl rfl rfl ?_
  refine g_aload_n 26 C dX0_copyFrom_25 rfl rfl rfl ?_
  refine g_get 29 C (own := RX0) (C1 := RX0) (T := TX0) 1 3 (.int (σ3 1 3)) kiX0_copyFrom_X0 kfX0_copyFrom_21 rfl dX0_copyFrom_26 rfl rfl rfl (by decide) rfl ?_
  obtain ⟨σ4, eσ4, hF⟩ := sg_letE hF
  refine g_put 32 C (own := RX0) (C1 := RX0) (T := TX0) (w2 := (ww_X0c Y ad σ4)) 0 3 tyX0 tyX0_ok nmX0 kiX0_copyFrom_X0 kfX0_copyFrom_21 rfl rfl (ty := .int) (by decide) rfl rfl (sg_blt rfl) dX0_copyFrom_29 rfl rfl rfl (by decide) (by rw [eσ4]; rfl) ?_
  refine g_aload_n 33 C dX0_copyFrom_32 rfl rfl rfl ?_
  refine g_aload_n 34 C dX0_copyFrom_33 rfl rfl rfl ?_
  refine g_get 37 C (own := RX0) (C1 := RX0) (T := TX0) 1 4 (.int (σ4 1 4)) kiX0_copyFrom_X0 kfX0_copyFrom_24 rfl dX0_copyFrom_34 rfl rfl rfl (by decide) rfl ?_
  obtain ⟨σ5, eσ5, hF⟩ := sg_letE hF
  refine g_put 40 C (own := RX0) (C1 := RX0) (T := TX0) (w2 := (ww_X0c Y ad σ5)) 0 4 tyX0 tyX0_ok nmX0 kiX0_copyFrom_X0 kfX0_copyFrom_24 rfl rfl (ty := .int) (by decide) rfl rfl (sg_blt rfl) dX0_copyFrom_37 rfl rfl rfl (by decide) (by rw [eσ5]; rfl) ?_
  refine g_aload_n 41 C dX0_copyFrom_40 rfl rfl rfl ?_
  refine g_aload_n 42 C dX0_copyFrom_41 rfl rfl rfl ?_
  refine g_get 45 C (own := RX0) (C1 := RX0) (T := TX0) 1 5 (.int (σ5 1 5)) kiX0_copyFrom_X0 kfX0_copyFrom_27 rfl dX0_copyFrom_42 rfl rfl rfl (by decide) rfl ?_
  obtain ⟨σ6, eσ6, hF⟩ := sg_letE hF
  refine g_put 48 C (own := RX0) (C1 := RX0) (T := TX0) (w2 := (ww_X0c Y ad σ6)) 0 5 tyX0 tyX0_ok nmX0 kiX0_copyFrom_X0 kfX0_copyFrom_27 rfl rfl (ty := .int) (by decide) rfl rfl (sg_blt rfl) dX0_copyFrom_45 rfl rfl rfl (by decide) (by rw [eσ6]; rfl) ?_
  refine g_aload_n 49 C dX0_copyFrom_48 rfl rfl rfl ?_
  refine g_aload_n 50 C dX0_copyFrom_49 rfl rfl rfl ?_
  refine g_get 53 C (own := RX0) (C1 := RX0) (T := TX0) 1 6 (.int (σ6 1 6)) kiX0_copyFrom_X0 kfX0_copyFrom_30 rfl dX0_copyFrom_50 rfl rfl rfl (by decide) rfl ?_
  obtain ⟨σ7, eσ7, hF⟩ := sg_letE hF
  refine g_put 56 C (own := RX0) (C1 := RX0) (T := TX0) (w2 := (ww_X0c Y ad σ7)) 0 6 tyX0 tyX0_ok nmX0 kiX0_copyFrom_X0 kfX0_copyFrom_30 rfl rfl (ty := .int) (by decide) rfl rfl (sg_blt rfl) dX0_copyFrom_53 rfl rfl rfl (by decide) (by rw [eσ7]; rfl) ?_
  refine g_aload_n 57 C dX0_copyFrom_56 rfl rfl rfl ?_
  refine g_aload_n 58 C dX0_copyFrom_57 rfl rfl rfl ?_
  refine g_get 61 C (own := RX0) (C1 := RX0) (T := TX0) 1 7 (.int (σ7 1 7)) kiX0_copyFrom_X0 kfX0_copyFrom_33 rfl dX0_copyFrom_58 rfl rfl rfl (by decide) rfl ?_
  obtain ⟨σ8, eσ8, hF⟩ := sg_letE hF
  refine g_put 64 C (own := RX0) (C1 := RX0) (T := TX0) (w2 := (ww_X0c Y ad σ8)) 0 7 tyX0 tyX0_ok nmX0 kiX0_copyFrom_X0 kfX0_copyFrom_33 rfl rfl (ty := .int) (by decide) rfl rfl (sg_blt rfl) dX0_copyFrom_61 rfl rfl rfl (by decide) (by rw [eσ8]; rfl) ?_
  have e2 := sg_someE hF
  exact g_vret C hr hQ hsz dX0_copyFrom_64 (by rw [e2])
theorem kiX0_entryOf_X0 : ∀ w ∈ u_ws RX0 TX0 8, w ∈ wsX0_entryOf := by decide +kernel
theorem kfX0_entryOf_9 : Cond.fieldLink RX0 9 "WeatherMinistry$Books" "got" "I" ∈ wsX0_entryOf := by decide +kernel
theorem kfX0_entryOf_15 : Cond.fieldLink RX0 15 "WeatherMinistry$Books" "paid" "I" ∈ wsX0_entryOf := by decide +kernel
theorem kfX0_entryOf_21 : Cond.fieldLink RX0 21 "WeatherMinistry$Books" "taken" "I" ∈ wsX0_entryOf := by decide +kernel
theorem kfX0_entryOf_24 : Cond.fieldLink RX0 24 "WeatherMinistry$Books" "broken" "I" ∈ wsX0_entryOf := by decide +kernel
theorem kfX0_entryOf_27 : Cond.fieldLink RX0 27 "WeatherMinistry$Books" "rainedBack" "I" ∈ wsX0_entryOf := by decide +kernel
theorem kfX0_entryOf_30 : Cond.fieldLink RX0 30 "WeatherMinistry$Books" "ended" "I" ∈ wsX0_entryOf := by decide +kernel
theorem kfX0_entryOf_33 : Cond.fieldLink RX0 33 "WeatherMinistry$Books" "endedInFull" "I" ∈ wsX0_entryOf := by decide +kernel
def f_X0_entryOf (x1 : Int32) (σ : sg_S) : Option Int32 := (if x1 = 7 then some (σ 0 0) else (if x1 = 8 then some (σ 0 1) else (if x1 = 9 then some (σ 0 3) else (if x1 = 10 then some (σ 0 4) else (if x1 = 11 then some (σ 0 5) else (if x1 = 12 then some (σ 0 6) else (if x1 = 13 then some (σ 0 7) else some ((-2)))))))))
set_option maxHeartbeats 4000000 in
set_option maxRecDepth 100000 in
theorem c_X0_entryOf (l : Launch) {D : va_G} {Y : Nat → ClassId} {Z : (Nat → Prop) → State → Heap → Prop} (hZ : sg_Zok Z) {ad : Nat → Nat} {σ : sg_S} {x1 : Int32} {r : Int32} (hF : f_X0_entryOf x1 σ = some r) : sg_MI l yX0_entryOf wsX0_entryOf 0 0 D Y Z [.ref (ad 0), .int x1] (ww_X0 Y ad σ) r (ww_X0 Y ad σ) := by
  intro sz
  refine sg_enter (own := RX0) (maxL := 2) (ret := (some .int)) (cc := cX0_entryOf) (by decide +kernel) rfl rfl (Nat.le_of_ble_eq_true rfl) hZ ?_
  intro p e s m args below meth c C hr Q hQ hsz
  refine g_lv (lv2 := [(0, .ref (ad 0)), (1, .int x1)]) [0, 1] rfl ?_
  rw [f_X0_entryOf] at hF
  refine g_iload_n 1 C dX0_entryOf_0 rfl rfl rfl ?_
  rcases sg_iteE hF with ⟨c1, hF⟩ | ⟨c1, hF⟩
  · refine g_tsin (off := 43) C 44 7 dX0_entryOf_1 c1 (by decide) (by decide) (by decide) (by decide) ?_
    refine g_aload_n 45 C dX0_entryOf_44 rfl rfl rfl ?_
    refine g_get 48 C (own := RX0) (C1 := RX0) (T := TX0) 0 0 (.int (σ 0 0)) kiX0_entryOf_X0 kfX0_entryOf_9 rfl dX0_entryOf_45 rfl rfl rfl (by decide) rfl ?_
    have e1 := sg_someE hF
    exact g_iret C hr rfl hQ hsz dX0_entryOf_48 e1.symm rfl
  rcases sg_iteE hF with ⟨c2, hF⟩ | ⟨c2, hF⟩
  · refine g_tsin (off := 48) C 49 8 dX0_entryOf_1 c2 (by decide) (by decide) (by decide) (by decide) ?_
    refine g_aload_n 50 C dX0_entryOf_49 rfl rfl rfl ?_
    refine g_get 53 C (own := RX0) (C1 := RX0) (T := TX0) 0 1 (.int (σ 0 1)) kiX0_entryOf_X0 kfX0_entryOf_15 rfl dX0_entryOf_50 rfl rfl rfl (by decide) rfl ?_
    have e1 := sg_someE hF
    exact g_iret C hr rfl hQ hsz dX0_entryOf_53 e1.symm rfl
  rcases sg_iteE hF with ⟨c3, hF⟩ | ⟨c3, hF⟩
  · refine g_tsin (off := 53) C 54 9 dX0_entryOf_1 c3 (by decide) (by decide) (by decide) (by decide) ?_
    refine g_aload_n 55 C dX0_entryOf_54 rfl rfl rfl ?_
    refine g_get 58 C (own := RX0) (C1 := RX0) (T := TX0) 0 3 (.int (σ 0 3)) kiX0_entryOf_X0 kfX0_entryOf_21 rfl dX0_entryOf_55 rfl rfl rfl (by decide) rfl ?_
    have e1 := sg_someE hF
    exact g_iret C hr rfl hQ hsz dX0_entryOf_58 e1.symm rfl
  rcases sg_iteE hF with ⟨c4, hF⟩ | ⟨c4, hF⟩
  · refine g_tsin (off := 58) C 59 10 dX0_entryOf_1 c4 (by decide) (by decide) (by decide) (by decide) ?_
    refine g_aload_n 60 C dX0_entryOf_59 rfl rfl rfl ?_
    refine g_get 63 C (own := RX0) (C1 := RX0) (T := TX0) 0 4 (.int (σ 0 4)) kiX0_entryOf_X0 kfX0_entryOf_24 rfl dX0_entryOf_60 rfl rfl rfl (by decide) rfl ?_
    have e1 := sg_someE hF
    exact g_iret C hr rfl hQ hsz dX0_entryOf_63 e1.symm rfl
  rcases sg_iteE hF with ⟨c5, hF⟩ | ⟨c5, hF⟩
  · refine g_tsin (off := 63) C 64 11 dX0_entryOf_1 c5 (by decide) (by decide) (by decide) (by decide) ?_
    refine g_aload_n 65 C dX0_entryOf_64 rfl rfl rfl ?_
    refine g_get 68 C (own := RX0) (C1 := RX0) (T := TX0) 0 5 (.int (σ 0 5)) kiX0_entryOf_X0 kfX0_entryOf_27 rfl dX0_entryOf_65 rfl rfl rfl (by decide) rfl ?_
    have e1 := sg_someE hF
    exact g_iret C hr rfl hQ hsz dX0_entryOf_68 e1.symm rfl
  rcases sg_iteE hF with ⟨c6, hF⟩ | ⟨c6, hF⟩
  · refine g_tsin (off := 68) C 69 12 dX0_entryOf_1 c6 (by decide) (by decide) (by decide) (by decide) ?_
    refine g_aload_n 70 C dX0_entryOf_69 rfl rfl rfl ?_
    refine g_get 73 C (own := RX0) (C1 := RX0) (T := TX0) 0 6 (.int (σ 0 6)) kiX0_entryOf_X0 kfX0_entryOf_30 rfl dX0_entryOf_70 rfl rfl rfl (by decide) rfl ?_
    have e1 := sg_someE hF
    exact g_iret C hr rfl hQ hsz dX0_entryOf_73 e1.symm rfl
  rcases sg_iteE hF with ⟨c7, hF⟩ | ⟨c7, hF⟩
  · refine g_tsin (off := 73) C 74 13 dX0_entryOf_1 c7 (by decide) (by decide) (by decide) (by decide) ?_
    refine g_aload_n 75 C dX0_entryOf_74 rfl rfl rfl ?_
    refine g_get 78 C (own := RX0) (C1 := RX0) (T := TX0) 0 7 (.int (σ 0 7)) kiX0_entryOf_X0 kfX0_entryOf_33 rfl dX0_entryOf_75 rfl rfl rfl (by decide) rfl ?_
    have e1 := sg_someE hF
    exact g_iret C hr rfl hQ hsz dX0_entryOf_78 e1.symm rfl
  have nc1 : Int32.toInt x1 ≠ 7 := sg_neT c1 (by decide)
  have nc2 : Int32.toInt x1 ≠ 8 := sg_neT c2 (by decide)
  have nc3 : Int32.toInt x1 ≠ 9 := sg_neT c3 (by decide)
  have nc4 : Int32.toInt x1 ≠ 10 := sg_neT c4 (by decide)
  have nc5 : Int32.toInt x1 ≠ 11 := sg_neT c5 (by decide)
  have nc6 : Int32.toInt x1 ≠ 12 := sg_neT c6 (by decide)
  have nc7 : Int32.toInt x1 ≠ 13 := sg_neT c7 (by decide)
  refine g_tsout C 79 dX0_entryOf_1 (by omega) (by decide) ?_
  refine g_bipush 81 C (-2) dX0_entryOf_79 rfl (by decide) ?_
  have e1 := sg_someE hF
  exact g_iret C hr rfl hQ hsz dX0_entryOf_81 e1.symm rfl
theorem kiX4_keep_X4 : ∀ w ∈ u_ws RX4 TX4 4, w ∈ wsX4_keep := by decide +kernel
theorem kfX4_keep_9 : Cond.fieldLink RX4 9 "WeatherMinistry$Reason" "number" "I" ∈ wsX4_keep := by decide +kernel
theorem kfX4_keep_15 : Cond.fieldLink RX4 15 "WeatherMinistry$Reason" "detail" "I" ∈ wsX4_keep := by decide +kernel
theorem kfX4_keep_18 : Cond.fieldLink RX4 18 "WeatherMinistry$Reason" "numberBehind" "I" ∈ wsX4_keep := by decide +kernel
theorem kfX4_keep_21 : Cond.fieldLink RX4 21 "WeatherMinistry$Reason" "detailBehind" "I" ∈ wsX4_keep := by decide +kernel
def f_X4_keep (x1 : Int32) (x2 : Int32) (σ : sg_S) : Option (Int32 × sg_S) := sg_let (sg_up σ 0 0 x1) (fun σ1 => sg_let (sg_up σ1 0 1 x2) (fun σ2 => sg_let (sg_up σ2 0 2 0) (fun σ3 => sg_let (sg_up σ3 0 3 0) (fun σ4 => some ((-5), σ4)))))
set_option maxHeartbeats 4000000 in
set_option maxRecDepth 100000 in
theorem c_X4_keep (l : Launch) {D : va_G} {Y : Nat → ClassId} {Z : (Nat → Prop) → State → Heap → Prop} (hZ : sg_Zok Z) {ad : Nat → Nat} {σ : sg_S} {σ' : sg_S} {x1 x2 : Int32} {r : Int32} (hF : f_X4_keep x1 x2 σ = some (r, σ')) : sg_MI l yX4_keep wsX4_keep 0 0 D Y Z [.ref (ad 0), .int x1, .int x2] (ww_X4 Y ad σ) r (ww_X4 Y ad σ') := by
  intro sz
  refine sg_enter (own := RX4) (maxL := 3) (ret := (some .int)) (cc := cX4_keep) (by decide +kernel) rfl rfl (Nat.le_of_ble_eq_true rfl) hZ ?_
  intro p e s m args below meth c C hr Q hQ hsz
  refine g_lv (lv2 := [(0, .ref (ad 0)), (1, .int x1), (2, .int x2)]) [0, 1, 2] rfl ?_
  rw [f_X4_keep] at hF
  refine g_aload_n 1 C dX4_keep_0 rfl rfl rfl ?_
  refine g_iload_n 2 C dX4_keep_1 rfl rfl rfl ?_
  obtain ⟨σ1, eσ1, hF⟩ := sg_letE hF
  refine g_put 5 C (own := RX4) (C1 := RX4) (T := TX4) (w2 := (ww_X4 Y ad σ1)) 0 0 tyX4 tyX4_ok nmX4 kiX4_keep_X4 kfX4_keep_9 rfl rfl (ty := .int) (by decide) rfl rfl (sg_blt rfl) dX4_keep_2 rfl rfl rfl (by decide) (by rw [eσ1]; rfl) ?_
  refine g_aload_n 6 C dX4_keep_5 rfl rfl rfl ?_
  refine g_iload_n 7 C dX4_keep_6 rfl rfl rfl ?_
  obtain ⟨σ2, eσ2, hF⟩ := sg_letE hF
  refine g_put 10 C (own := RX4) (C1 := RX4) (T := TX4) (w2 := (ww_X4 Y ad σ2)) 0 1 tyX4 tyX4_ok nmX4 kiX4_keep_X4 kfX4_keep_15 rfl rfl (ty := .int) (by decide) rfl rfl (sg_blt rfl) dX4_keep_7 rfl rfl rfl (by decide) (by rw [eσ2]; rfl) ?_
  refine g_aload_n 11 C dX4_keep_10 rfl rfl rfl ?_
  refine g_iconst 12 C 0 dX4_keep_11 rfl (by decide) ?_
  obtain ⟨σ3, eσ3, hF⟩ := sg_letE hF
  refine g_put 15 C (own := RX4) (C1 := RX4) (T := TX4) (w2 := (ww_X4 Y ad σ3)) 0 2 tyX4 tyX4_ok nmX4 kiX4_keep_X4 kfX4_keep_18 rfl rfl (ty := .int) (by decide) rfl rfl (sg_blt rfl) dX4_keep_12 rfl rfl rfl (by decide) (by rw [eσ3]; rfl) ?_
  refine g_aload_n 16 C dX4_keep_15 rfl rfl rfl ?_
  refine g_iconst 17 C 0 dX4_keep_16 rfl (by decide) ?_
  obtain ⟨σ4, eσ4, hF⟩ := sg_letE hF
  refine g_put 20 C (own := RX4) (C1 := RX4) (T := TX4) (w2 := (ww_X4 Y ad σ4)) 0 3 tyX4 tyX4_ok nmX4 kiX4_keep_X4 kfX4_keep_21 rfl rfl (ty := .int) (by decide) rfl rfl (sg_blt rfl) dX4_keep_17 rfl rfl rfl (by decide) (by rw [eσ4]; rfl) ?_
  refine g_bipush 22 C (-5) dX4_keep_20 rfl (by decide) ?_
  obtain ⟨e1, e2⟩ := sg_pairE hF
  exact g_iret C hr rfl hQ hsz dX4_keep_22 e1.symm (by rw [e2])
theorem kiX4_keepOfCommand_X4 : ∀ w ∈ u_ws RX4 TX4 4, w ∈ wsX4_keepOfCommand := by decide +kernel
theorem kfX4_keepOfCommand_18 : Cond.fieldLink RX4 18 "WeatherMinistry$Reason" "numberBehind" "I" ∈ wsX4_keepOfCommand := by decide +kernel
theorem kfX4_keepOfCommand_21 : Cond.fieldLink RX4 21 "WeatherMinistry$Reason" "detailBehind" "I" ∈ wsX4_keepOfCommand := by decide +kernel
theorem kfX4_keepOfCommand_9 : Cond.fieldLink RX4 9 "WeatherMinistry$Reason" "number" "I" ∈ wsX4_keepOfCommand := by decide +kernel
theorem kfX4_keepOfCommand_15 : Cond.fieldLink RX4 15 "WeatherMinistry$Reason" "detail" "I" ∈ wsX4_keepOfCommand := by decide +kernel
def f_X4_keepOfCommand_J29 (x1 : Int32) (x2 : Int32) (t0 : Int32) (σz : sg_S) : Option (Int32 × sg_S) := sg_let (sg_up σz 0 3 t0) (fun σ2 => sg_let (sg_up σ2 0 0 9) (fun σ3 => sg_let (sg_up σ3 0 1 x1) (fun σ4 => some ((-5), σ4))))
def f_X4_keepOfCommand_J13 (x1 : Int32) (x2 : Int32) (t0 : Int32) (σz : sg_S) : Option (Int32 × sg_S) := sg_let (sg_up σz 0 2 t0) (fun σ1 => (if x2 = 0 then f_X4_keepOfCommand_J29 x1 x2 0 σ1 else f_X4_keepOfCommand_J29 x1 x2 (σ1 0 1) σ1))
def f_X4_keepOfCommand (x1 : Int32) (x2 : Int32) (σ : sg_S) : Option (Int32 × sg_S) := (if x2 = 0 then f_X4_keepOfCommand_J13 x1 x2 0 σ else f_X4_keepOfCommand_J13 x1 x2 (σ 0 0) σ)
set_option maxHeartbeats 4000000 in
set_option maxRecDepth 100000 in
theorem c_X4_keepOfCommand (l : Launch) {D : va_G} {Y : Nat → ClassId} {Z : (Nat → Prop) → State → Heap → Prop} (hZ : sg_Zok Z) {ad : Nat → Nat} {σ : sg_S} {σ' : sg_S} {x1 x2 : Int32} {r : Int32} (hF : f_X4_keepOfCommand x1 x2 σ = some (r, σ')) : sg_MI l yX4_keepOfCommand wsX4_keepOfCommand 0 0 D Y Z [.ref (ad 0), .int x1, .int x2] (ww_X4 Y ad σ) r (ww_X4 Y ad σ') := by
  intro sz
  refine sg_enter (own := RX4) (maxL := 3) (ret := (some .int)) (cc := cX4_keepOfCommand) (by decide +kernel) rfl rfl (Nat.le_of_ble_eq_true rfl) hZ ?_
  intro p e s m args below meth c C hr Q hQ hsz
  refine g_lv (lv2 := [(0, .ref (ad 0)), (1, .int x1), (2, .int x2)]) [0, 1, 2] rfl ?_
  have K29 : ∀ (t0 : Int32) (σz : sg_S), f_X4_keepOfCommand_J29 x1 x2 t0 σz = some (r, σ') → sg_G p l e ({ frames := 0, cells := 0, slots := 0, locals := 0 } : Room) s m args below meth c D (va_A (ww_X4 Y ad σ) s.heap.size) 3 0 0 Q 29 [(0, .ref (ad 0)), (1, .int x1)] [.int t0, .ref (ad 0)] (ww_X4 Y ad σz) := by
    intro  t0 σz hF
    rw [f_X4_keepOfCommand_J29] at hF
    obtain ⟨σ2, eσ2, hF⟩ := sg_letE hF
    refine g_put 32 C (own := RX4) (C1 := RX4) (T := TX4) (w2 := (ww_X4 Y ad σ2)) 0 3 tyX4 tyX4_ok nmX4 kiX4_keepOfCommand_X4 kfX4_keepOfCommand_21 rfl rfl (ty := .int) (by decide) rfl rfl (sg_blt rfl) dX4_keepOfCommand_29 rfl rfl rfl (by decide) (by rw [eσ2]; rfl) ?_
    refine g_aload_n 33 C dX4_keepOfCommand_32 rfl rfl rfl ?_
    refine g_bipush 35 C 9 dX4_keepOfCommand_33 rfl (by decide) ?_
    obtain ⟨σ3, eσ3, hF⟩ := sg_letE hF
    refine g_put 38 C (own := RX4) (C1 := RX4) (T := TX4) (w2 := (ww_X4 Y ad σ3)) 0 0 tyX4 tyX4_ok nmX4 kiX4_keepOfCommand_X4 kfX4_keepOfCommand_9 rfl rfl (ty := .int) (by decide) rfl rfl (sg_blt rfl) dX4_keepOfCommand_35 rfl rfl rfl (by decide) (by rw [eσ3]; rfl) ?_
    refine g_aload_n 39 C dX4_keepOfCommand_38 rfl rfl rfl ?_
    refine g_iload_n 40 C dX4_keepOfCommand_39 rfl rfl rfl ?_
    obtain ⟨σ4, eσ4, hF⟩ := sg_letE hF
    refine g_put 43 C (own := RX4) (C1 := RX4) (T := TX4) (w2 := (ww_X4 Y ad σ4)) 0 1 tyX4 tyX4_ok nmX4 kiX4_keepOfCommand_X4 kfX4_keepOfCommand_15 rfl rfl (ty := .int) (by decide) rfl rfl (sg_blt rfl) dX4_keepOfCommand_40 rfl rfl rfl (by decide) (by rw [eσ4]; rfl) ?_
    refine g_bipush 45 C (-5) dX4_keepOfCommand_43 rfl (by decide) ?_
    obtain ⟨e1, e2⟩ := sg_pairE hF
    exact g_iret C hr rfl hQ hsz dX4_keepOfCommand_45 e1.symm (by rw [e2])
  have K13 : ∀ (t0 : Int32) (σz : sg_S), f_X4_keepOfCommand_J13 x1 x2 t0 σz = some (r, σ') → sg_G p l e ({ frames := 0, cells := 0, slots := 0, locals := 0 } : Room) s m args below meth c D (va_A (ww_X4 Y ad σ) s.heap.size) 3 0 0 Q 13 [(0, .ref (ad 0)), (1, .int x1), (2, .int x2)] [.int t0, .ref (ad 0)] (ww_X4 Y ad σz) := by
    intro  t0 σz hF
    rw [f_X4_keepOfCommand_J13] at hF
    obtain ⟨σ1, eσ1, hF⟩ := sg_letE hF
    refine g_put 16 C (own := RX4) (C1 := RX4) (T := TX4) (w2 := (ww_X4 Y ad σ1)) 0 2 tyX4 tyX4_ok nmX4 kiX4_keepOfCommand_X4 kfX4_keepOfCommand_18 rfl rfl (ty := .int) (by decide) rfl rfl (sg_blt rfl) dX4_keepOfCommand_13 rfl rfl rfl (by decide) (by rw [eσ1]; rfl) ?_
    refine g_aload_n 17 C dX4_keepOfCommand_16 rfl rfl rfl ?_
    refine g_iload_n 18 C dX4_keepOfCommand_17 rfl rfl rfl ?_
    refine g_if_eq 21 28 C dX4_keepOfCommand_18 (by decide) rfl hF (fun hF => ?_) (fun hF => ?_)
    · refine g_iconst 29 C 0 dX4_keepOfCommand_28 rfl (by decide) ?_
      refine g_lv (lv2 := [(0, .ref (ad 0)), (1, .int x1)]) [0, 1] rfl ?_
      exact K29  0 σ1 hF
    · refine g_aload_n 22 C dX4_keepOfCommand_21 rfl rfl rfl ?_
      refine g_get 25 C (own := RX4) (C1 := RX4) (T := TX4) 0 1 (.int (σ1 0 1)) kiX4_keepOfCommand_X4 kfX4_keepOfCommand_15 rfl dX4_keepOfCommand_22 rfl rfl rfl (by decide) rfl ?_
      refine g_goto 29 C dX4_keepOfCommand_25 (by decide) ?_
      refine g_lv (lv2 := [(0, .ref (ad 0)), (1, .int x1)]) [0, 1] rfl ?_
      exact K29  (σ1 0 1) σ1 hF
  rw [f_X4_keepOfCommand] at hF
  refine g_aload_n 1 C dX4_keepOfCommand_0 rfl rfl rfl ?_
  refine g_iload_n 2 C dX4_keepOfCommand_1 rfl rfl rfl ?_
  refine g_if_eq 5 12 C dX4_keepOfCommand_2 (by decide) rfl hF (fun hF => ?_) (fun hF => ?_)
  · refine g_iconst 13 C 0 dX4_keepOfCommand_12 rfl (by decide) ?_
    refine g_lv (lv2 := [(0, .ref (ad 0)), (1, .int x1), (2, .int x2)]) [0, 1, 2] rfl ?_
    exact K13  0 σ hF
  · refine g_aload_n 6 C dX4_keepOfCommand_5 rfl rfl rfl ?_
    refine g_get 9 C (own := RX4) (C1 := RX4) (T := TX4) 0 0 (.int (σ 0 0)) kiX4_keepOfCommand_X4 kfX4_keepOfCommand_9 rfl dX4_keepOfCommand_6 rfl rfl rfl (by decide) rfl ?_
    refine g_goto 13 C dX4_keepOfCommand_9 (by decide) ?_
    refine g_lv (lv2 := [(0, .ref (ad 0)), (1, .int x1), (2, .int x2)]) [0, 1, 2] rfl ?_
    exact K13  (σ 0 0) σ hF
