theorem kiX3_copyFrom_X3 : ∀ w ∈ u_ws RX3 TX3 8, w ∈ wsX3_copyFrom := by decide +kernel
theorem kfX3_copyFrom_9 : Cond.fieldLink RX3 9 "WeatherMinistry$Realm" "month" "I" ∈ wsX3_copyFrom := by decide +kernel
theorem kfX3_copyFrom_15 : Cond.fieldLink RX3 15 "WeatherMinistry$Realm" "sun" "[I" ∈ wsX3_copyFrom := by decide +kernel
theorem kmX3_copyFrom_49 : Cond.methodLink RX3 49 arraycopyName ∈ wsX3_copyFrom := by decide +kernel
theorem kvX3_copyFrom_ac : Cond.native arraycopyName ∈ wsX3_copyFrom := by decide +kernel
theorem ksX3_copyFrom_ac : Cond.static arraycopyName ∈ wsX3_copyFrom := by decide +kernel
theorem knX3_copyFrom_sys : Cond.initialized "java/lang/System" ∈ wsX3_copyFrom := by decide +kernel
theorem kfX3_copyFrom_19 : Cond.fieldLink RX3 19 "WeatherMinistry$Realm" "rain" "[I" ∈ wsX3_copyFrom := by decide +kernel
theorem kfX3_copyFrom_22 : Cond.fieldLink RX3 22 "WeatherMinistry$Realm" "umbrellas" "[I" ∈ wsX3_copyFrom := by decide +kernel
theorem kfX3_copyFrom_25 : Cond.fieldLink RX3 25 "WeatherMinistry$Realm" "arrears" "[I" ∈ wsX3_copyFrom := by decide +kernel
theorem kfX3_copyFrom_31 : Cond.fieldLink RX3 31 "WeatherMinistry$Realm" "treaties" "LWeatherMinistry$Treaties;" ∈ wsX3_copyFrom := by decide +kernel
theorem kfX3_copyFrom_38 : Cond.fieldLink RX3 38 "WeatherMinistry$Realm" "credits" "LWeatherMinistry$Credits;" ∈ wsX3_copyFrom := by decide +kernel
theorem kfX3_copyFrom_45 : Cond.fieldLink RX3 45 "WeatherMinistry$Realm" "books" "LWeatherMinistry$Books;" ∈ wsX3_copyFrom := by decide +kernel
def f_X3_copyFrom  (σ : sg_S) : Option sg_S := sg_let (sg_up σ 0 0 (σ 13 0)) (fun σ1 => sg_let (sg_ur σ1 1 (va_cpy (σ1 14) (σ1 1) 0 0 5)) (fun σ2 => sg_let (sg_ur σ2 2 (va_cpy (σ2 15) (σ2 2) 0 0 5)) (fun σ3 => sg_let (sg_ur σ3 3 (va_cpy (σ3 16) (σ3 3) 0 0 5)) (fun σ4 => sg_let (sg_ur σ4 4 (va_cpy (σ4 17) (σ4 4) 0 0 5)) (fun σ5 => sg_bnd (f_X6_copyFrom  (sg_e2 3 5 18 σ5)) (fun τ6 => sg_let (sg_m2 5 3 18 3 σ5 τ6) (fun σ8 => sg_bnd (f_X1_copyFrom  (sg_e2 4 8 21 σ8)) (fun τ9 => sg_let (sg_m2 8 4 21 4 σ8 τ9) (fun σ11 => sg_bnd (f_X0_copyFrom  (sg_e2 1 12 25 σ11)) (fun τ12 => sg_let (sg_m2 12 1 25 1 σ11 τ12) (fun σ14 => some σ14)))))))))))
set_option maxHeartbeats 4000000 in
set_option maxRecDepth 100000 in
theorem c_X3_copyFrom (l : Launch) {D : va_G} {Y : Nat → ClassId} {Z : (Nat → Prop) → State → Heap → Prop} (hZ : sg_Zok Z) {ad : Nat → Nat} {σ : sg_S} {σ' : sg_S} (hF : f_X3_copyFrom  σ = some σ') : sg_MV l yX3_copyFrom wsX3_copyFrom 2 61 D Y Z [.ref (ad 0), .ref (ad 13)] (ww_X3c Y ad σ) (ww_X3c Y ad σ') := by
  intro sz
  refine sg_enter (own := RX3) (maxL := 2) (ret := none) (cc := cX3_copyFrom) (by decide +kernel) rfl rfl (Nat.le_of_ble_eq_true rfl) hZ ?_
  intro p e s m args below meth c C hr Q hQ hsz
  refine g_lv (lv2 := [(0, .ref (ad 0)), (1, .ref (ad 13))]) [0, 1] rfl ?_
  rw [f_X3_copyFrom] at hF
  refine g_aload_n 1 C dX3_copyFrom_0 rfl rfl rfl ?_
  refine g_aload_n 2 C dX3_copyFrom_1 rfl rfl rfl ?_
  refine g_get 5 C (own := RX3) (C1 := RX3) (T := TX3) 13 0 (.int (σ 13 0)) kiX3_copyFrom_X3 kfX3_copyFrom_9 rfl dX3_copyFrom_2 rfl rfl rfl (by decide) rfl ?_
  obtain ⟨σ1, eσ1, hF⟩ := sg_letE hF
  refine g_put 8 C (own := RX3) (C1 := RX3) (T := TX3) (w2 := (ww_X3c Y ad σ1)) 0 0 tyX3 tyX3_ok nmX3 kiX3_copyFrom_X3 kfX3_copyFrom_9 rfl rfl (ty := .int) (by decide) rfl rfl (sg_blt rfl) dX3_copyFrom_5 rfl rfl rfl (by decide) (by rw [eσ1]; rfl) ?_
  refine g_aload_n 9 C dX3_copyFrom_8 rfl rfl rfl ?_
  refine g_get 12 C (own := RX3) (C1 := RX3) (T := TX3) 13 1 (.ref (ad 14)) kiX3_copyFrom_X3 kfX3_copyFrom_15 rfl dX3_copyFrom_9 rfl rfl rfl (by decide) rfl ?_
  refine g_iconst 13 C 0 dX3_copyFrom_12 rfl (by decide) ?_
  refine g_aload_n 14 C dX3_copyFrom_13 rfl rfl rfl ?_
  refine g_get 17 C (own := RX3) (C1 := RX3) (T := TX3) 0 1 (.ref (ad 1)) kiX3_copyFrom_X3 kfX3_copyFrom_15 rfl dX3_copyFrom_14 rfl rfl rfl (by decide) rfl ?_
  refine g_iconst 18 C 0 dX3_copyFrom_17 rfl (by decide) ?_
  refine g_iconst 19 C 5 dX3_copyFrom_18 rfl (by decide) ?_
  obtain ⟨σ2, eσ2, hF⟩ := sg_letE hF
  refine g_copyi 22 C (w2 := (ww_X3c Y ad σ2)) 14 1 kmX3_copyFrom_49 kvX3_copyFrom_ac ksX3_copyFrom_ac knX3_copyFrom_sys rfl rfl (by decide) (by decide) (by decide) (by decide) (by decide) (Nat.le_of_ble_eq_true rfl) (by decide) dX3_copyFrom_19 rfl (by rw [eσ2]; rfl) ?_
  refine g_aload_n 23 C dX3_copyFrom_22 rfl rfl rfl ?_
  refine g_get 26 C (own := RX3) (C1 := RX3) (T := TX3) 13 2 (.ref (ad 15)) kiX3_copyFrom_X3 kfX3_copyFrom_19 rfl dX3_copyFrom_23 rfl rfl rfl (by decide) rfl ?_
  refine g_iconst 27 C 0 dX3_copyFrom_26 rfl (by decide) ?_
  refine g_aload_n 28 C dX3_copyFrom_27 rfl rfl rfl ?_
  refine g_get 31 C (own := RX3) (C1 := RX3) (T := TX3) 0 2 (.ref (ad 2)) kiX3_copyFrom_X3 kfX3_copyFrom_19 rfl dX3_copyFrom_28 rfl rfl rfl (by decide) rfl ?_
  refine g_iconst 32 C 0 dX3_copyFrom_31 rfl (by decide) ?_
  refine g_iconst 33 C 5 dX3_copyFrom_32 rfl (by decide) ?_
  obtain ⟨σ3, eσ3, hF⟩ := sg_letE hF
  refine g_copyi 36 C (w2 := (ww_X3c Y ad σ3)) 15 2 kmX3_copyFrom_49 kvX3_copyFrom_ac ksX3_copyFrom_ac knX3_copyFrom_sys rfl rfl (by decide) (by decide) (by decide) (by decide) (by decide) (Nat.le_of_ble_eq_true rfl) (by decide) dX3_copyFrom_33 rfl (by rw [eσ3]; rfl) ?_
  refine g_aload_n 37 C dX3_copyFrom_36 rfl rfl rfl ?_
  refine g_get 40 C (own := RX3) (C1 := RX3) (T := TX3) 13 3 (.ref (ad 16)) kiX3_copyFrom_X3 kfX3_copyFrom_22 rfl dX3_copyFrom_37 rfl rfl rfl (by decide) rfl ?_
  refine g_iconst 41 C 0 dX3_copyFrom_40 rfl (by decide) ?_
  refine g_aload_n 42 C dX3_copyFrom_41 rfl rfl rfl ?_
  refine g_get 45 C (own := RX3) (C1 := RX3) (T := TX3) 0 3 (.ref (ad 3)) kiX3_copyFrom_X3 kfX3_copyFrom_22 rfl dX3_copyFrom_42 rfl rfl rfl (by decide) rfl ?_
  refine g_iconst 46 C 0 dX3_copyFrom_45 rfl (by decide) ?_
  refine g_iconst 47 C 5 dX3_copyFrom_46 rfl (by decide) ?_
  obtain ⟨σ4, eσ4, hF⟩ := sg_letE hF
  refine g_copyi 50 C (w2 := (ww_X3c Y ad σ4)) 16 3 kmX3_copyFrom_49 kvX3_copyFrom_ac ksX3_copyFrom_ac knX3_copyFrom_sys rfl rfl (by decide) (by decide) (by decide) (by decide) (by decide) (Nat.le_of_ble_eq_true rfl) (by decide) dX3_copyFrom_47 rfl (by rw [eσ4]; rfl) ?_
  refine g_aload_n 51 C dX3_copyFrom_50 rfl rfl rfl ?_
  refine g_get 54 C (own := RX3) (C1 := RX3) (T := TX3) 13 4 (.ref (ad 17)) kiX3_copyFrom_X3 kfX3_copyFrom_25 rfl dX3_copyFrom_51 rfl rfl rfl (by decide) rfl ?_
  refine g_iconst 55 C 0 dX3_copyFrom_54 rfl (by decide) ?_
  refine g_aload_n 56 C dX3_copyFrom_55 rfl rfl rfl ?_
  refine g_get 59 C (own := RX3) (C1 := RX3) (T := TX3) 0 4 (.ref (ad 4)) kiX3_copyFrom_X3 kfX3_copyFrom_25 rfl dX3_copyFrom_56 rfl rfl rfl (by decide) rfl ?_
  refine g_iconst 60 C 0 dX3_copyFrom_59 rfl (by decide) ?_
  refine g_iconst 61 C 5 dX3_copyFrom_60 rfl (by decide) ?_
  obtain ⟨σ5, eσ5, hF⟩ := sg_letE hF
  refine g_copyi 64 C (w2 := (ww_X3c Y ad σ5)) 17 4 kmX3_copyFrom_49 kvX3_copyFrom_ac ksX3_copyFrom_ac knX3_copyFrom_sys rfl rfl (by decide) (by decide) (by decide) (by decide) (by decide) (Nat.le_of_ble_eq_true rfl) (by decide) dX3_copyFrom_61 rfl (by rw [eσ5]; rfl) ?_
  refine g_aload_n 65 C dX3_copyFrom_64 rfl rfl rfl ?_
  refine g_get 68 C (own := RX3) (C1 := RX3) (T := TX3) 0 5 (.ref (ad 5)) kiX3_copyFrom_X3 kfX3_copyFrom_31 rfl dX3_copyFrom_65 rfl rfl rfl (by decide) rfl ?_
  refine g_aload_n 69 C dX3_copyFrom_68 rfl rfl rfl ?_
  refine g_get 72 C (own := RX3) (C1 := RX3) (T := TX3) 13 5 (.ref (ad 18)) kiX3_copyFrom_X3 kfX3_copyFrom_31 rfl dX3_copyFrom_69 rfl rfl rfl (by decide) rfl ?_
  obtain ⟨τ6, q7, hF⟩ := sg_bndE hF
  obtain ⟨σ8, eσ8, hF⟩ := sg_letE hF
  refine g_callVv 75 C (w2 := (ww_X3c Y ad σ8)) (As := [.ref (ad 18)]) (st := []) (n0 := 1) (ci := 8) (q0 := 5) [5, 6, 7, 18, 19, 20] [0, 1, 2, 3, 4, 8, 9, 10, 11, 12, 13, 14, 15, 16, 17, 21, 22, 23, 24, 25] [0, 1, 2, 3, 4, 20, 21, 22, 5, 6, 7, 8, 9, 10, 11, 12, 13, 14, 23, 24, 25, 15, 16, 17, 18, 19] (c_X6_copyFrom l hZ (ad := (sg_e2 3 5 18 ad)) q7) gX3_copyFrom_X6_copyFrom ⟨rfl, by decide +kernel, by decide +kernel, rfl⟩ rfl ⟨Nat.le_of_ble_eq_true rfl, Nat.le_of_ble_eq_true rfl⟩ rfl rfl (by subst eσ8; exact ⟨rfl, rfl, rfl, by decide, rfl, rfl⟩) rfl rfl (Nat.le_of_ble_eq_true rfl) ⟨Nat.le_refl _, Nat.le_refl _⟩ dX3_copyFrom_72 rfl rfl ?_
  refine g_aload_n 76 C dX3_copyFrom_75 rfl rfl rfl ?_
  refine g_get 79 C (own := RX3) (C1 := RX3) (T := TX3) 0 6 (.ref (ad 8)) kiX3_copyFrom_X3 kfX3_copyFrom_38 rfl dX3_copyFrom_76 rfl rfl rfl (by decide) rfl ?_
  refine g_aload_n 80 C dX3_copyFrom_79 rfl rfl rfl ?_
  refine g_get 83 C (own := RX3) (C1 := RX3) (T := TX3) 13 6 (.ref (ad 21)) kiX3_copyFrom_X3 kfX3_copyFrom_38 rfl dX3_copyFrom_80 rfl rfl rfl (by decide) rfl ?_
  obtain ⟨τ9, q10, hF⟩ := sg_bndE hF
  obtain ⟨σ11, eσ11, hF⟩ := sg_letE hF
  refine g_callVv 86 C (w2 := (ww_X3c Y ad σ11)) (As := [.ref (ad 21)]) (st := []) (n0 := 1) (ci := 3) (q0 := 8) [8, 9, 10, 11, 21, 22, 23, 24] [0, 1, 2, 3, 4, 5, 6, 7, 12, 13, 14, 15, 16, 17, 18, 19, 20, 25] [0, 1, 2, 3, 4, 5, 6, 7, 18, 19, 20, 21, 8, 9, 10, 11, 12, 13, 14, 15, 16, 22, 23, 24, 25, 17] (c_X1_copyFrom l hZ (ad := (sg_e2 4 8 21 ad)) q10) gX3_copyFrom_X1_copyFrom ⟨rfl, by decide +kernel, by decide +kernel, rfl⟩ rfl ⟨Nat.le_of_ble_eq_true rfl, Nat.le_of_ble_eq_true rfl⟩ rfl rfl (by subst eσ11; exact ⟨rfl, rfl, rfl, by decide, rfl, rfl⟩) rfl rfl (Nat.le_of_ble_eq_true rfl) ⟨Nat.le_refl _, Nat.le_refl _⟩ dX3_copyFrom_83 rfl rfl ?_
  refine g_aload_n 87 C dX3_copyFrom_86 rfl rfl rfl ?_
  refine g_get 90 C (own := RX3) (C1 := RX3) (T := TX3) 0 7 (.ref (ad 12)) kiX3_copyFrom_X3 kfX3_copyFrom_45 rfl dX3_copyFrom_87 rfl rfl rfl (by decide) rfl ?_
  refine g_aload_n 91 C dX3_copyFrom_90 rfl rfl rfl ?_
  refine g_get 94 C (own := RX3) (C1 := RX3) (T := TX3) 13 7 (.ref (ad 25)) kiX3_copyFrom_X3 kfX3_copyFrom_45 rfl dX3_copyFrom_91 rfl rfl rfl (by decide) rfl ?_
  obtain ⟨τ12, q13, hF⟩ := sg_bndE hF
  obtain ⟨σ14, eσ14, hF⟩ := sg_letE hF
  refine g_callVv 97 C (w2 := (ww_X3c Y ad σ14)) (As := [.ref (ad 25)]) (st := []) (n0 := 1) (ci := 2) (q0 := 12) [12, 25] [0, 1, 2, 3, 4, 5, 6, 7, 8, 9, 10, 11, 13, 14, 15, 16, 17, 18, 19, 20, 21, 22, 23, 24] [0, 1, 2, 3, 4, 5, 6, 7, 8, 9, 10, 11, 24, 12, 13, 14, 15, 16, 17, 18, 19, 20, 21, 22, 23, 25] (c_X0_copyFrom l hZ (ad := (sg_e2 1 12 25 ad)) q13) gX3_copyFrom_X0_copyFrom ⟨rfl, by decide +kernel, by decide +kernel, rfl⟩ rfl ⟨Nat.le_of_ble_eq_true rfl, Nat.le_of_ble_eq_true rfl⟩ rfl rfl (by subst eσ14; exact ⟨rfl, rfl, rfl, by decide, rfl, rfl⟩) rfl rfl (Nat.le_of_ble_eq_true rfl) ⟨Nat.le_refl _, Nat.le_refl _⟩ dX3_copyFrom_94 rfl rfl ?_
  have e2 := sg_someE hF
  exact g_vret C hr hQ hsz dX3_copyFrom_97 (by rw [e2])
theorem knX3_weatherOf_X7 : Cond.initialized RX7 ∈ wsX3_weatherOf := by decide +kernel
theorem ksX3_weatherOf_X7_isTown : Cond.static yX7_isTown ∈ wsX3_weatherOf := by decide +kernel
theorem kiX3_weatherOf_X3 : ∀ w ∈ u_ws RX3 TX3 8, w ∈ wsX3_weatherOf := by decide +kernel
theorem kfX3_weatherOf_15 : Cond.fieldLink RX3 15 "WeatherMinistry$Realm" "sun" "[I" ∈ wsX3_weatherOf := by decide +kernel
theorem kfX3_weatherOf_19 : Cond.fieldLink RX3 19 "WeatherMinistry$Realm" "rain" "[I" ∈ wsX3_weatherOf := by decide +kernel
theorem kfX3_weatherOf_22 : Cond.fieldLink RX3 22 "WeatherMinistry$Realm" "umbrellas" "[I" ∈ wsX3_weatherOf := by decide +kernel
theorem kfX3_weatherOf_25 : Cond.fieldLink RX3 25 "WeatherMinistry$Realm" "arrears" "[I" ∈ wsX3_weatherOf := by decide +kernel
def f_X3_weatherOf (x1 : Int32) (x2 : Int32) (σ : sg_S) : Option Int32 := sg_bnd (f_X7_isTown x1) (fun r1 => (if r1 = 0 then some ((-1)) else (if x2 = 0 then sg_grd (sg_in x1 5) (some (σ 1 x1.toNatClampNeg)) else (if x2 = 1 then sg_grd (sg_in x1 5) (some (σ 2 x1.toNatClampNeg)) else (if x2 = 2 then sg_grd (sg_in x1 5) (some (σ 3 x1.toNatClampNeg)) else (if x2 = 3 then sg_grd (sg_in x1 5) (some (σ 4 x1.toNatClampNeg)) else some ((-2))))))))
set_option maxHeartbeats 4000000 in
set_option maxRecDepth 100000 in
theorem c_X3_weatherOf (l : Launch) {D : va_G} {Y : Nat → ClassId} {Z : (Nat → Prop) → State → Heap → Prop} (hZ : sg_Zok Z) {ad : Nat → Nat} {σ : sg_S} {x1 x2 : Int32} {r : Int32} (hF : f_X3_weatherOf x1 x2 σ = some r) : sg_MI l yX3_weatherOf wsX3_weatherOf 1 20 D Y Z [.ref (ad 0), .int x1, .int x2] (ww_X3 Y ad σ) r (ww_X3 Y ad σ) := by
  intro sz
  refine sg_enter (own := RX3) (maxL := 3) (ret := (some .int)) (cc := cX3_weatherOf) (by decide +kernel) rfl rfl (Nat.le_of_ble_eq_true rfl) hZ ?_
  intro p e s m args below meth c C hr Q hQ hsz
  have hN := hZ.2.2.2.1 _ _ _ C.2.2.2.2.2.2.2.2.1
  refine g_lv (lv2 := [(0, .ref (ad 0)), (1, .int x1), (2, .int x2)]) [0, 1, 2] rfl ?_
  rw [f_X3_weatherOf] at hF
  refine g_iload_n 1 C dX3_weatherOf_0 rfl rfl rfl ?_
  obtain ⟨r1, q2, hF⟩ := sg_bndE hF
  refine g_callNi 4 C (w2 := (ww_X3 Y ad σ)) (As := [.int x1]) (st := []) (n0 := 1) [] [0, 1, 2, 3, 4, 5, 6, 7, 8, 9, 10, 11, 12] [0, 1, 2, 3, 4, 5, 6, 7, 8, 9, 10, 11, 12] (c_X7_isTown l hZ (ad := ad) (σ := σ) q2) gX3_weatherOf_X7_isTown_n65 hN.2.1 knX3_weatherOf_X7 ksX3_weatherOf_X7_isTown ⟨by decide +kernel, by decide +kernel, rfl⟩ rfl ⟨Nat.le_of_ble_eq_true rfl, Nat.le_of_ble_eq_true rfl⟩ ⟨rfl, rfl, rfl, by decide, rfl, rfl⟩ rfl rfl (Nat.le_of_ble_eq_true rfl) ⟨Nat.le_refl _, Nat.le_refl _⟩ dX3_weatherOf_1 rfl rfl ?_
  refine g_if_ne 7 9 C dX3_weatherOf_4 (by decide) rfl hF (fun hF => ?_) (fun hF => ?_)
  · refine g_iload_n 10 C dX3_weatherOf_9 rfl rfl rfl ?_
    rcases sg_iteE hF with ⟨c4, hF⟩ | ⟨c4, hF⟩
    · refine g_tsin (off := 30) C 40 0 dX3_weatherOf_10 c4 (by decide) (by decide) (by decide) (by decide) ?_
      refine g_aload_n 41 C dX3_weatherOf_40 rfl rfl rfl ?_
      refine g_get 44 C (own := RX3) (C1 := RX3) (T := TX3) 0 1 (.ref (ad 1)) kiX3_weatherOf_X3 kfX3_weatherOf_15 rfl dX3_weatherOf_41 rfl rfl rfl (by decide) rfl ?_
      refine g_iload_n 45 C dX3_weatherOf_44 rfl rfl rfl ?_
      obtain ⟨h3, hF⟩ := sg_grdE hF
      refine g_ialdc 46 C 1 (x1.toNatClampNeg) (σ 1 x1.toNatClampNeg) dX3_weatherOf_45 rfl rfl rfl h3 rfl ?_
      have e1 := sg_someE hF
      exact g_iret C hr rfl hQ hsz dX3_weatherOf_46 e1.symm rfl
    rcases sg_iteE hF with ⟨c6, hF⟩ | ⟨c6, hF⟩
    · refine g_tsin (off := 37) C 47 1 dX3_weatherOf_10 c6 (by decide) (by decide) (by decide) (by decide) ?_
      refine g_aload_n 48 C dX3_weatherOf_47 rfl rfl rfl ?_
      refine g_get 51 C (own := RX3) (C1 := RX3) (T := TX3) 0 2 (.ref (ad 2)) kiX3_weatherOf_X3 kfX3_weatherOf_19 rfl dX3_weatherOf_48 rfl rfl rfl (by decide) rfl ?_
      refine g_iload_n 52 C dX3_weatherOf_51 rfl rfl rfl ?_
      obtain ⟨h5, hF⟩ := sg_grdE hF
      refine g_ialdc 53 C 2 (x1.toNatClampNeg) (σ 2 x1.toNatClampNeg) dX3_weatherOf_52 rfl rfl rfl h5 rfl ?_
      have e1 := sg_someE hF
      exact g_iret C hr rfl hQ hsz dX3_weatherOf_53 e1.symm rfl
    rcases sg_iteE hF with ⟨c8, hF⟩ | ⟨c8, hF⟩
    · refine g_tsin (off := 44) C 54 2 dX3_weatherOf_10 c8 (by decide) (by decide) (by decide) (by decide) ?_
      refine g_aload_n 55 C dX3_weatherOf_54 rfl rfl rfl ?_
      refine g_get 58 C (own := RX3) (C1 := RX3) (T := TX3) 0 3 (.ref (ad 3)) kiX3_weatherOf_X3 kfX3_weatherOf_22 rfl dX3_weatherOf_55 rfl rfl rfl (by decide) rfl ?_
      refine g_iload_n 59 C dX3_weatherOf_58 rfl rfl rfl ?_
      obtain ⟨h7, hF⟩ := sg_grdE hF
      refine g_ialdc 60 C 3 (x1.toNatClampNeg) (σ 3 x1.toNatClampNeg) dX3_weatherOf_59 rfl rfl rfl h7 rfl ?_
      have e1 := sg_someE hF
      exact g_iret C hr rfl hQ hsz dX3_weatherOf_60 e1.symm rfl
    rcases sg_iteE hF with ⟨c10, hF⟩ | ⟨c10, hF⟩
    · refine g_tsin (off := 51) C 61 3 dX3_weatherOf_10 c10 (by decide) (by decide) (by decide) (by decide) ?_
      refine g_aload_n 62 C dX3_weatherOf_61 rfl rfl rfl ?_
      refine g_get 65 C (own := RX3) (C1 := RX3) (T := TX3) 0 4 (.ref (ad 4)) kiX3_weatherOf_X3 kfX3_weatherOf_25 rfl dX3_weatherOf_62 rfl rfl rfl (by decide) rfl ?_
      refine g_iload_n 66 C dX3_weatherOf_65 rfl rfl rfl ?_
      obtain ⟨h9, hF⟩ := sg_grdE hF
      refine g_ialdc 67 C 4 (x1.toNatClampNeg) (σ 4 x1.toNatClampNeg) dX3_weatherOf_66 rfl rfl rfl h9 rfl ?_
      have e1 := sg_someE hF
      exact g_iret C hr rfl hQ hsz dX3_weatherOf_67 e1.symm rfl
    have nc4 : Int32.toInt x2 ≠ 0 := sg_neT c4 (by decide)
    have nc6 : Int32.toInt x2 ≠ 1 := sg_neT c6 (by decide)
    have nc8 : Int32.toInt x2 ≠ 2 := sg_neT c8 (by decide)
    have nc10 : Int32.toInt x2 ≠ 3 := sg_neT c10 (by decide)
    refine g_tsout C 68 dX3_weatherOf_10 (by omega) (by decide) ?_
    refine g_bipush 70 C (-2) dX3_weatherOf_68 rfl (by decide) ?_
    have e1 := sg_someE hF
    exact g_iret C hr rfl hQ hsz dX3_weatherOf_70 e1.symm rfl
  · refine g_iconst 8 C (-1) dX3_weatherOf_7 rfl (by decide) ?_
    have e1 := sg_someE hF
    exact g_iret C hr rfl hQ hsz dX3_weatherOf_8 e1.symm rfl
theorem knX3_comesAhead_X7 : Cond.initialized RX7 ∈ wsX3_comesAhead := by decide +kernel
theorem ksX3_comesAhead_X7_isTown : Cond.static yX7_isTown ∈ wsX3_comesAhead := by decide +kernel
theorem kiX3_comesAhead_X3 : ∀ w ∈ u_ws RX3 TX3 8, w ∈ wsX3_comesAhead := by decide +kernel
theorem kfX3_comesAhead_25 : Cond.fieldLink RX3 25 "WeatherMinistry$Realm" "arrears" "[I" ∈ wsX3_comesAhead := by decide +kernel
theorem kfX3_comesAhead_15 : Cond.fieldLink RX3 15 "WeatherMinistry$Realm" "sun" "[I" ∈ wsX3_comesAhead := by decide +kernel
def f_X3_comesAhead (x1 : Int32) (x2 : Int32) (σ : sg_S) : Option Int32 := sg_bnd (f_X7_isTown x1) (fun r1 => (if r1 = 0 then some 0 else sg_bnd (f_X7_isTown x2) (fun r3 => (if r3 = 0 then some 0 else sg_grd (sg_in x1 5) (sg_grd (sg_in x2 5) ((if σ 4 x1.toNatClampNeg = σ 4 x2.toNatClampNeg then (if σ 1 x1.toNatClampNeg = σ 1 x2.toNatClampNeg then (if x1 < x2 then some 1 else some 0) else (if σ 1 x1.toNatClampNeg < σ 1 x2.toNatClampNeg then some 1 else some 0)) else (if σ 4 x2.toNatClampNeg < σ 4 x1.toNatClampNeg then some 1 else some 0))))))))
set_option maxHeartbeats 4000000 in
set_option maxRecDepth 100000 in
theorem c_X3_comesAhead (l : Launch) {D : va_G} {Y : Nat → ClassId} {Z : (Nat → Prop) → State → Heap → Prop} (hZ : sg_Zok Z) {ad : Nat → Nat} {σ : sg_S} {x1 x2 : Int32} {r : Int32} (hF : f_X3_comesAhead x1 x2 σ = some r) : sg_MI l yX3_comesAhead wsX3_comesAhead 1 20 D Y Z [.ref (ad 0), .int x1, .int x2] (ww_X3 Y ad σ) r (ww_X3 Y ad σ) := by
  intro sz
  refine sg_enter (own := RX3) (maxL := 3) (ret := (some .boolean)) (cc := cX3_comesAhead) (by decide +kernel) rfl rfl (Nat.le_of_ble_eq_true rfl) hZ ?_
  intro p e s m args below meth c C hr Q hQ hsz
  have hN := hZ.2.2.2.1 _ _ _ C.2.2.2.2.2.2.2.2.1
  refine g_lv (lv2 := [(0, .ref (ad 0)), (1, .int x1), (2, .int x2)]) [0, 1, 2] rfl ?_
  rw [f_X3_comesAhead] at hF
  refine g_iload_n 1 C dX3_comesAhead_0 rfl rfl rfl ?_
  obtain ⟨r1, q2, hF⟩ := sg_bndE hF
  refine g_callNi 4 C (w2 := (ww_X3 Y ad σ)) (As := [.int x1]) (st := []) (n0 := 1) [] [0, 1, 2, 3, 4, 5, 6, 7, 8, 9, 10, 11, 12] [0, 1, 2, 3, 4, 5, 6, 7, 8, 9, 10, 11, 12] (c_X7_isTown l hZ (ad := ad) (σ := σ) q2) gX3_comesAhead_X7_isTown_n65 hN.2.1 knX3_comesAhead_X7 ksX3_comesAhead_X7_isTown ⟨by decide +kernel, by decide +kernel, rfl⟩ rfl ⟨Nat.le_of_ble_eq_true rfl, Nat.le_of_ble_eq_true rfl⟩ ⟨rfl, rfl, rfl, by decide, rfl, rfl⟩ rfl rfl (Nat.le_of_ble_eq_true rfl) ⟨Nat.le_refl _, Nat.le_refl _⟩ dX3_comesAhead_1 rfl rfl ?_
  refine g_if_eq 7 14 C dX3_comesAhead_4 (by decide) rfl hF (fun hF => ?_) (fun hF => ?_)
  · refine g_iconst 15 C 0 dX3_comesAhead_14 rfl (by decide) ?_
    have e1 := sg_someE hF
    exact g_iret C hr rfl hQ hsz dX3_comesAhead_15 e1.symm rfl
  · refine g_iload_n 8 C dX3_comesAhead_7 rfl rfl rfl ?_
    obtain ⟨r3, q4, hF⟩ := sg_bndE hF
    refine g_callNi 11 C (w2 := (ww_X3 Y ad σ)) (As := [.int x2]) (st := []) (n0 := 1) [] [0, 1, 2, 3, 4, 5, 6, 7, 8, 9, 10, 11, 12] [0, 1, 2, 3, 4, 5, 6, 7, 8, 9, 10, 11, 12] (c_X7_isTown l hZ (ad := ad) (σ := σ) q4) gX3_comesAhead_X7_isTown_n65 hN.2.1 knX3_comesAhead_X7 ksX3_comesAhead_X7_isTown ⟨by decide +kernel, by decide +kernel, rfl⟩ rfl ⟨Nat.le_of_ble_eq_true rfl, Nat.le_of_ble_eq_true rfl⟩ ⟨rfl, rfl, rfl, by decide, rfl, rfl⟩ rfl rfl (Nat.le_of_ble_eq_true rfl) ⟨Nat.le_refl _, Nat.le_refl _⟩ dX3_comesAhead_8 rfl rfl ?_
    refine g_if_ne 14 16 C dX3_comesAhead_11 (by decide) rfl hF (fun hF => ?_) (fun hF => ?_)
    · refine g_aload_n 17 C dX3_comesAhead_16 rfl rfl rfl ?_
      refine g_get 20 C (own := RX3) (C1 := RX3) (T := TX3) 0 4 (.ref (ad 4)) kiX3_comesAhead_X3 kfX3_comesAhead_25 rfl dX3_comesAhead_17 rfl rfl rfl (by decide) rfl ?_
      refine g_iload_n 21 C dX3_comesAhead_20 rfl rfl rfl ?_
      obtain ⟨h5, hF⟩ := sg_grdE hF
      refine g_ialdc 22 C 4 (x1.toNatClampNeg) (σ 4 x1.toNatClampNeg) dX3_comesAhead_21 rfl rfl rfl h5 rfl ?_
      refine g_aload_n 23 C dX3_comesAhead_22 rfl rfl rfl ?_
      refine g_get 26 C (own := RX3) (C1 := RX3) (T := TX3) 0 4 (.ref (ad 4)) kiX3_comesAhead_X3 kfX3_comesAhead_25 rfl dX3_comesAhead_23 rfl rfl rfl (by decide) rfl ?_
      refine g_iload_n 27 C dX3_comesAhead_26 rfl rfl rfl ?_
      obtain ⟨h6, hF⟩ := sg_grdE hF
      refine g_ialdc 28 C 4 (x2.toNatClampNeg) (σ 4 x2.toNatClampNeg) dX3_comesAhead_27 rfl rfl rfl h6 rfl ?_
      refine g_icmp_eq 31 52 C dX3_comesAhead_28 (by decide) rfl hF (fun hF => ?_) (fun hF => ?_)
      · refine g_aload_n 53 C dX3_comesAhead_52 rfl rfl rfl ?_
        refine g_get 56 C (own := RX3) (C1 := RX3) (T := TX3) 0 1 (.ref (ad 1)) kiX3_comesAhead_X3 kfX3_comesAhead_15 rfl dX3_comesAhead_53 rfl rfl rfl (by decide) rfl ?_
        refine g_iload_n 57 C dX3_comesAhead_56 rfl rfl rfl ?_
        refine g_ialdc 58 C 1 (x1.toNatClampNeg) (σ 1 x1.toNatClampNeg) dX3_comesAhead_57 rfl rfl rfl h5 rfl ?_
        refine g_aload_n 59 C dX3_comesAhead_58 rfl rfl rfl ?_
        refine g_get 62 C (own := RX3) (C1 := RX3) (T := TX3) 0 1 (.ref (ad 1)) kiX3_comesAhead_X3 kfX3_comesAhead_15 rfl dX3_comesAhead_59 rfl rfl rfl (by decide) rfl ?_
        refine g_iload_n 63 C dX3_comesAhead_62 rfl rfl rfl ?_
        refine g_ialdc 64 C 1 (x2.toNatClampNeg) (σ 1 x2.toNatClampNeg) dX3_comesAhead_63 rfl rfl rfl h6 rfl ?_
        refine g_icmp_eq 67 90 C dX3_comesAhead_64 (by decide) rfl hF (fun hF => ?_) (fun hF => ?_)
        · refine g_iload_n 91 C dX3_comesAhead_90 rfl rfl rfl ?_
          refine g_iload_n 92 C dX3_comesAhead_91 rfl rfl rfl ?_
          refine g_icmp_ge 95 99 C dX3_comesAhead_92 (by decide) rfl hF (fun hF => ?_) (fun hF => ?_)
          · refine g_iconst 100 C 0 dX3_comesAhead_99 rfl (by decide) ?_
            have e1 := sg_someE hF
            exact g_iret C hr rfl hQ hsz dX3_comesAhead_100 e1.symm rfl
          · refine g_iconst 96 C 1 dX3_comesAhead_95 rfl (by decide) ?_
            refine g_goto 100 C dX3_comesAhead_96 (by decide) ?_
            have e1 := sg_someE hF
            exact g_iret C hr rfl hQ hsz dX3_comesAhead_100 e1.symm rfl
        · refine g_aload_n 68 C dX3_comesAhead_67 rfl rfl rfl ?_
          refine g_get 71 C (own := RX3) (C1 := RX3) (T := TX3) 0 1 (.ref (ad 1)) kiX3_comesAhead_X3 kfX3_comesAhead_15 rfl dX3_comesAhead_68 rfl rfl rfl (by decide) rfl ?_
          refine g_iload_n 72 C dX3_comesAhead_71 rfl rfl rfl ?_
          refine g_ialdc 73 C 1 (x1.toNatClampNeg) (σ 1 x1.toNatClampNeg) dX3_comesAhead_72 rfl rfl rfl h5 rfl ?_
          refine g_aload_n 74 C dX3_comesAhead_73 rfl rfl rfl ?_
          refine g_get 77 C (own := RX3) (C1 := RX3) (T := TX3) 0 1 (.ref (ad 1)) kiX3_comesAhead_X3 kfX3_comesAhead_15 rfl dX3_comesAhead_74 rfl rfl rfl (by decide) rfl ?_
          refine g_iload_n 78 C dX3_comesAhead_77 rfl rfl rfl ?_
          refine g_ialdc 79 C 1 (x2.toNatClampNeg) (σ 1 x2.toNatClampNeg) dX3_comesAhead_78 rfl rfl rfl h6 rfl ?_
          refine g_icmp_ge 82 86 C dX3_comesAhead_79 (by decide) rfl hF (fun hF => ?_) (fun hF => ?_)
          · refine g_iconst 87 C 0 dX3_comesAhead_86 rfl (by decide) ?_
            refine g_goto 100 C dX3_comesAhead_87 (by decide) ?_
            have e1 := sg_someE hF
            exact g_iret C hr rfl hQ hsz dX3_comesAhead_100 e1.symm rfl
          · refine g_iconst 83 C 1 dX3_comesAhead_82 rfl (by decide) ?_
            refine g_goto 100 C dX3_comesAhead_83 (by decide) ?_
            have e1 := sg_someE hF
            exact g_iret C hr rfl hQ hsz dX3_comesAhead_100 e1.symm rfl
      · refine g_aload_n 32 C dX3_comesAhead_31 rfl rfl rfl ?_
        refine g_get 35 C (own := RX3) (C1 := RX3) (T := TX3) 0 4 (.ref (ad 4)) kiX3_comesAhead_X3 kfX3_comesAhead_25 rfl dX3_comesAhead_32 rfl rfl rfl (by decide) rfl ?_
        refine g_iload_n 36 C dX3_comesAhead_35 rfl rfl rfl ?_
        refine g_ialdc 37 C 4 (x1.toNatClampNeg) (σ 4 x1.toNatClampNeg) dX3_comesAhead_36 rfl rfl rfl h5 rfl ?_
        refine g_aload_n 38 C dX3_comesAhead_37 rfl rfl rfl ?_
        refine g_get 41 C (own := RX3) (C1 := RX3) (T := TX3) 0 4 (.ref (ad 4)) kiX3_comesAhead_X3 kfX3_comesAhead_25 rfl dX3_comesAhead_38 rfl rfl rfl (by decide) rfl ?_
        refine g_iload_n 42 C dX3_comesAhead_41 rfl rfl rfl ?_
        refine g_ialdc 43 C 4 (x2.toNatClampNeg) (σ 4 x2.toNatClampNeg) dX3_comesAhead_42 rfl rfl rfl h6 rfl ?_
        refine g_icmp_le 46 50 C dX3_comesAhead_43 (by decide) rfl hF (fun hF => ?_) (fun hF => ?_)
        · refine g_iconst 51 C 0 dX3_comesAhead_50 rfl (by decide) ?_
          have e1 := sg_someE hF
          exact g_iret C hr rfl hQ hsz dX3_comesAhead_51 e1.symm rfl
        · refine g_iconst 47 C 1 dX3_comesAhead_46 rfl (by decide) ?_
          refine g_goto 51 C dX3_comesAhead_47 (by decide) ?_
          have e1 := sg_someE hF
          exact g_iret C hr rfl hQ hsz dX3_comesAhead_51 e1.symm rfl
    · refine g_iconst 15 C 0 dX3_comesAhead_14 rfl (by decide) ?_
      have e1 := sg_someE hF
      exact g_iret C hr rfl hQ hsz dX3_comesAhead_15 e1.symm rfl
def f_X3_rankOf_L4 (x1 : Int32) (σ : sg_S) : Nat → Int32 → Int32 → Option Int32
  | 0, _, _ => none
  | nz + 1, z2, z3 => (if z3 < 5 then sg_bnd (f_X3_comesAhead z3 x1 σ) (fun r1 => (if r1 = 0 then f_X3_rankOf_L4 x1 σ nz z2 (z3 + 1) else f_X3_rankOf_L4 x1 σ nz (z2 + 1) (z3 + 1))) else some z2)
def f_X3_rankOf (x1 : Int32) (σ : sg_S) : Option Int32 := f_X3_rankOf_L4 x1 σ 1000 0 0
set_option maxHeartbeats 4000000 in
set_option maxRecDepth 100000 in
theorem c_X3_rankOf (l : Launch) {D : va_G} {Y : Nat → ClassId} {Z : (Nat → Prop) → State → Heap → Prop} (hZ : sg_Zok Z) {ad : Nat → Nat} {σ : sg_S} {x1 : Int32} {r : Int32} (hF : f_X3_rankOf x1 σ = some r) : sg_MI l yX3_rankOf wsX3_rankOf 2 42 D Y Z [.ref (ad 0), .int x1] (ww_X3 Y ad σ) r (ww_X3 Y ad σ) := by
  intro sz
  refine sg_enter (own := RX3) (maxL := 4) (ret := (some .int)) (cc := cX3_rankOf) (by decide +kernel) rfl rfl (Nat.le_of_ble_eq_true rfl) hZ ?_
  intro p e s m args below meth c C hr Q hQ hsz
  refine g_lv (lv2 := [(0, .ref (ad 0)), (1, .int x1)]) [0, 1] rfl ?_
  have K4 : ∀ (nz : Nat), ∀ (z2 : Int32) (z3 : Int32), f_X3_rankOf_L4 x1 σ nz z2 z3 = some r → sg_G p l e ({ frames := 2, cells := 0, slots := 0, locals := 42 } : Room) s m args below meth c D (va_A (ww_X3 Y ad σ) s.heap.size) 4 0 0 Q 4 [(0, .ref (ad 0)), (1, .int x1), (2, .int z2), (3, .int z3)] [] (ww_X3 Y ad σ) := by
    intro nz
    induction nz with
    | zero =>
      intro z2 z3 hF
      rw [f_X3_rankOf_L4.eq_1] at hF
      exact nomatch hF
    | succ nz ih =>
      intro z2 z3 hF
      rw [f_X3_rankOf_L4.eq_2] at hF
      refine g_iload_n 5 C dX3_rankOf_4 rfl rfl rfl ?_
      refine g_iconst 6 C 5 dX3_rankOf_5 rfl (by decide) ?_
      refine g_icmp_ge 9 27 C dX3_rankOf_6 (by decide) rfl hF (fun hF => ?_) (fun hF => ?_)
      · refine g_iload_n 28 C dX3_rankOf_27 rfl rfl rfl ?_
        have e1 := sg_someE hF
        exact g_iret C hr rfl hQ hsz dX3_rankOf_28 e1.symm rfl
      · refine g_aload_n 10 C dX3_rankOf_9 rfl rfl rfl ?_
        refine g_iload_n 11 C dX3_rankOf_10 rfl rfl rfl ?_
        refine g_iload_n 12 C dX3_rankOf_11 rfl rfl rfl ?_
        obtain ⟨r1, q2, hF⟩ := sg_bndE hF
        refine g_callVi 15 C (w2 := (ww_X3 Y ad σ)) (As := [.int z3, .int x1]) (st := []) (n0 := 2) (ci := 5) (q0 := 0) [0, 1, 2, 3, 4, 5, 6, 7, 8, 9, 10, 11, 12] [] [0, 1, 2, 3, 4, 5, 6, 7, 8, 9, 10, 11, 12] (c_X3_comesAhead l hZ (ad := ad) q2) gX3_rankOf_X3_comesAhead ⟨rfl, by decide +kernel, by decide +kernel, rfl⟩ rfl ⟨Nat.le_of_ble_eq_true rfl, Nat.le_of_ble_eq_true rfl⟩ rfl rfl ⟨rfl, rfl, rfl, by decide, rfl, rfl⟩ rfl rfl (Nat.le_of_ble_eq_true rfl) ⟨Nat.le_refl _, Nat.le_refl _⟩ dX3_rankOf_12 rfl rfl ?_
        refine g_if_eq 18 21 C dX3_rankOf_15 (by decide) rfl hF (fun hF => ?_) (fun hF => ?_)
        · refine g_iinc 24 C 3 (z3 + 1) [(3, .int (z3 + 1)), (0, .ref (ad 0)), (1, .int x1), (2, .int z2)] dX3_rankOf_21 rfl rfl rfl (by decide) rfl ?_
          refine g_goto 4 C dX3_rankOf_24 (by decide) ?_
          refine g_lv (lv2 := [(0, .ref (ad 0)), (1, .int x1), (2, .int z2), (3, .int (z3 + 1))]) [1, 2, 3, 0] rfl ?_
          exact ih z2 (z3 + 1) hF
        · refine g_iinc 21 C 2 (z2 + 1) [(2, .int (z2 + 1)), (0, .ref (ad 0)), (1, .int x1), (3, .int z3)] dX3_rankOf_18 rfl rfl rfl (by decide) rfl ?_
          refine g_iinc 24 C 3 (z3 + 1) [(3, .int (z3 + 1)), (2, .int (z2 + 1)), (0, .ref (ad 0)), (1, .int x1)] dX3_rankOf_21 rfl rfl rfl (by decide) rfl ?_
          refine g_goto 4 C dX3_rankOf_24 (by decide) ?_
          refine g_lv (lv2 := [(0, .ref (ad 0)), (1, .int x1), (2, .int (z2 + 1)), (3, .int (z3 + 1))]) [2, 3, 1, 0] rfl ?_
          exact ih (z2 + 1) (z3 + 1) hF
  rw [f_X3_rankOf] at hF
  refine g_iconst 1 C 0 dX3_rankOf_0 rfl (by decide) ?_
  refine g_istore_n 2 C [(2, .int 0), (0, .ref (ad 0)), (1, .int x1)] dX3_rankOf_1 rfl rfl (by decide) rfl ?_
  refine g_iconst 3 C 0 dX3_rankOf_2 rfl (by decide) ?_
  refine g_istore_n 4 C [(3, .int 0), (2, .int 0), (0, .ref (ad 0)), (1, .int x1)] dX3_rankOf_3 rfl rfl (by decide) rfl ?_
  refine g_lv (lv2 := [(0, .ref (ad 0)), (1, .int x1), (2, .int 0), (3, .int 0)]) [2, 3, 1, 0] rfl ?_
  exact K4  1000 0 0 hF
theorem kiX3_owedByMonths_X3 : ∀ w ∈ u_ws RX3 TX3 8, w ∈ wsX3_owedByMonths := by decide +kernel
theorem kfX3_owedByMonths_38 : Cond.fieldLink RX3 38 "WeatherMinistry$Realm" "credits" "LWeatherMinistry$Credits;" ∈ wsX3_owedByMonths := by decide +kernel
theorem kfX3_owedByMonths_9 : Cond.fieldLink RX3 9 "WeatherMinistry$Realm" "month" "I" ∈ wsX3_owedByMonths := by decide +kernel
def f_X3_owedByMonths_L4 (x1 : Int32) (σ : sg_S) : Nat → Int32 → Int32 → Option Int32
  | 0, _, _ => none
  | nz + 1, z2, z3 => (if z3 ≤ 6 then sg_bnd (f_X1_owedIn x1 ((σ 0 0) + z3) (sg_e1 8 σ)) (fun r1 => sg_let (z2 + r1) (fun y3 => f_X3_owedByMonths_L4 x1 σ nz y3 (z3 + 1))) else some z2)
def f_X3_owedByMonths (x1 : Int32) (σ : sg_S) : Option Int32 := f_X3_owedByMonths_L4 x1 σ 1000 0 0
set_option maxHeartbeats 4000000 in
set_option maxRecDepth 100000 in
theorem c_X3_owedByMonths (l : Launch) {D : va_G} {Y : Nat → ClassId} {Z : (Nat → Prop) → State → Heap → Prop} (hZ : sg_Zok Z) {ad : Nat → Nat} {σ : sg_S} {x1 : Int32} {r : Int32} (hF : f_X3_owedByMonths x1 σ = some r) : sg_MI l yX3_owedByMonths wsX3_owedByMonths 1 24 D Y Z [.ref (ad 0), .int x1] (ww_X3 Y ad σ) r (ww_X3 Y ad σ) := by
  intro sz
  refine sg_enter (own := RX3) (maxL := 4) (ret := (some .int)) (cc := cX3_owedByMonths) (by decide +kernel) rfl rfl (Nat.le_of_ble_eq_true rfl) hZ ?_
  intro p e s m args below meth c C hr Q hQ hsz
  refine g_lv (lv2 := [(0, .ref (ad 0)), (1, .int x1)]) [0, 1] rfl ?_
  have K4 : ∀ (nz : Nat), ∀ (z2 : Int32) (z3 : Int32), f_X3_owedByMonths_L4 x1 σ nz z2 z3 = some r → sg_G p l e ({ frames := 1, cells := 0, slots := 0, locals := 24 } : Room) s m args below meth c D (va_A (ww_X3 Y ad σ) s.heap.size) 4 0 0 Q 4 [(0, .ref (ad 0)), (1, .int x1), (2, .int z2), (3, .int z3)] [] (ww_X3 Y ad σ) := by
    intro nz
    induction nz with
    | zero =>
      intro z2 z3 hF
      rw [f_X3_owedByMonths_L4.eq_1] at hF
      exact nomatch hF
    | succ nz ih =>
      intro z2 z3 hF
      rw [f_X3_owedByMonths_L4.eq_2] at hF
      refine g_iload_n 5 C dX3_owedByMonths_4 rfl rfl rfl ?_
      refine g_bipush 7 C 6 dX3_owedByMonths_5 rfl (by decide) ?_
      refine g_icmp_gt 10 33 C dX3_owedByMonths_7 (by decide) rfl hF (fun hF => ?_) (fun hF => ?_)
      · refine g_iload_n 34 C dX3_owedByMonths_33 rfl rfl rfl ?_
        have e1 := sg_someE hF
        exact g_iret C hr rfl hQ hsz dX3_owedByMonths_34 e1.symm rfl
      · refine g_iload_n 11 C dX3_owedByMonths_10 rfl rfl rfl ?_
        refine g_aload_n 12 C dX3_owedByMonths_11 rfl rfl rfl ?_
        refine g_get 15 C (own := RX3) (C1 := RX3) (T := TX3) 0 6 (.ref (ad 8)) kiX3_owedByMonths_X3 kfX3_owedByMonths_38 rfl dX3_owedByMonths_12 rfl rfl rfl (by decide) rfl ?_
        refine g_iload_n 16 C dX3_owedByMonths_15 rfl rfl rfl ?_
        refine g_aload_n 17 C dX3_owedByMonths_16 rfl rfl rfl ?_
        refine g_get 20 C (own := RX3) (C1 := RX3) (T := TX3) 0 0 (.int (σ 0 0)) kiX3_owedByMonths_X3 kfX3_owedByMonths_9 rfl dX3_owedByMonths_17 rfl rfl rfl (by decide) rfl ?_
        refine g_iload_n 21 C dX3_owedByMonths_20 rfl rfl rfl ?_
        refine g_iadd 22 C dX3_owedByMonths_21 rfl ?_
        obtain ⟨r1, q2, hF⟩ := sg_bndE hF
        refine g_callVi 25 C (w2 := (ww_X3 Y ad σ)) (As := [.int x1, .int ((σ 0 0) + z3)]) (st := [.int z2]) (n0 := 2) (ci := 3) (q0 := 8) [8, 9, 10, 11] [0, 1, 2, 3, 4, 5, 6, 7, 12] [0, 1, 2, 3, 4, 5, 6, 7, 9, 10, 11, 12, 8] (c_X1_owedIn l hZ (ad := (sg_e1 8 ad)) q2) gX3_owedByMonths_X1_owedIn ⟨rfl, by decide +kernel, by decide +kernel, rfl⟩ rfl ⟨Nat.le_of_ble_eq_true rfl, Nat.le_of_ble_eq_true rfl⟩ rfl rfl ⟨rfl, rfl, rfl, by decide, rfl, rfl⟩ rfl rfl (Nat.le_of_ble_eq_true rfl) ⟨Nat.le_refl _, Nat.le_refl _⟩ dX3_owedByMonths_22 rfl rfl ?_
        refine g_iadd 26 C dX3_owedByMonths_25 rfl ?_
        obtain ⟨y3, ey3, hF⟩ := sg_letE hF
        refine g_top ey3 ?_
        refine g_istore_n 27 C [(2, .int y3), (0, .ref (ad 0)), (1, .int x1), (3, .int z3)] dX3_owedByMonths_26 rfl rfl (by decide) rfl ?_
        refine g_iinc 30 C 3 (z3 + 1) [(3, .int (z3 + 1)), (2, .int y3), (0, .ref (ad 0)), (1, .int x1)] dX3_owedByMonths_27 rfl rfl rfl (by decide) rfl ?_
        refine g_goto 4 C dX3_owedByMonths_30 (by decide) ?_
        refine g_lv (lv2 := [(0, .ref (ad 0)), (1, .int x1), (2, .int y3), (3, .int (z3 + 1))]) [2, 3, 1, 0] rfl ?_
        exact ih y3 (z3 + 1) hF
  rw [f_X3_owedByMonths] at hF
  refine g_iconst 1 C 0 dX3_owedByMonths_0 rfl (by decide) ?_
  refine g_istore_n 2 C [(2, .int 0), (0, .ref (ad 0)), (1, .int x1)] dX3_owedByMonths_1 rfl rfl (by decide) rfl ?_
  refine g_iconst 3 C 0 dX3_owedByMonths_2 rfl (by decide) ?_
  refine g_istore_n 4 C [(3, .int 0), (2, .int 0), (0, .ref (ad 0)), (1, .int x1)] dX3_owedByMonths_3 rfl rfl (by decide) rfl ?_
  refine g_lv (lv2 := [(0, .ref (ad 0)), (1, .int x1), (2, .int 0), (3, .int 0)]) [2, 3, 1, 0] rfl ?_
  exact K4  1000 0 0 hF
theorem kiX3_isSunCounted_X3 : ∀ w ∈ u_ws RX3 TX3 8, w ∈ wsX3_isSunCounted := by decide +kernel
theorem kfX3_isSunCounted_45 : Cond.fieldLink RX3 45 "WeatherMinistry$Realm" "books" "LWeatherMinistry$Books;" ∈ wsX3_isSunCounted := by decide +kernel
theorem kiX3_isSunCounted_X0 : ∀ w ∈ u_ws RX0 TX0 8, w ∈ wsX3_isSunCounted := by decide +kernel
theorem kfX3_isSunCounted_77 : Cond.fieldLink RX3 77 "WeatherMinistry$Books" "got" "I" ∈ wsX3_isSunCounted := by decide +kernel
theorem kfX3_isSunCounted_15 : Cond.fieldLink RX3 15 "WeatherMinistry$Realm" "sun" "[I" ∈ wsX3_isSunCounted := by decide +kernel
theorem knX3_isSunCounted_X7 : Cond.initialized RX7 ∈ wsX3_isSunCounted := by decide +kernel
theorem ksX3_isSunCounted_X7_sumOf : Cond.static yX7_sumOf ∈ wsX3_isSunCounted := by decide +kernel
theorem kfX3_isSunCounted_84 : Cond.fieldLink RX3 84 "WeatherMinistry$Books" "paid" "I" ∈ wsX3_isSunCounted := by decide +kernel
theorem kfX3_isSunCounted_87 : Cond.fieldLink RX3 87 "WeatherMinistry$Books" "spent" "I" ∈ wsX3_isSunCounted := by decide +kernel
theorem kfX3_isSunCounted_90 : Cond.fieldLink RX3 90 "WeatherMinistry$Books" "taken" "I" ∈ wsX3_isSunCounted := by decide +kernel
def f_X3_isSunCounted  (σ : sg_S) : Option Int32 := sg_let (50 + (σ 12 0)) (fun y1 => sg_bnd (f_X7_sumOf  (sg_e1 1 σ)) (fun r2 => (if y1 = ((r2 + (σ 12 1)) + (σ 12 2)) + (σ 12 3) then some 1 else some 0)))
set_option maxHeartbeats 4000000 in
set_option maxRecDepth 100000 in
theorem c_X3_isSunCounted (l : Launch) {D : va_G} {Y : Nat → ClassId} {Z : (Nat → Prop) → State → Heap → Prop} (hZ : sg_Zok Z) {ad : Nat → Nat} {σ : sg_S} {r : Int32} (hF : f_X3_isSunCounted  σ = some r) : sg_MI l yX3_isSunCounted wsX3_isSunCounted 1 25 D Y Z [.ref (ad 0)] (ww_X3 Y ad σ) r (ww_X3 Y ad σ) := by
  intro sz
  refine sg_enter (own := RX3) (maxL := 2) (ret := (some .boolean)) (cc := cX3_isSunCounted) (by decide +kernel) rfl rfl (Nat.le_of_ble_eq_true rfl) hZ ?_
  intro p e s m args below meth c C hr Q hQ hsz
  have hN := hZ.2.2.2.1 _ _ _ C.2.2.2.2.2.2.2.2.1
  refine g_lv (lv2 := [(0, .ref (ad 0))]) [0] rfl ?_
  rw [f_X3_isSunCounted] at hF
  refine g_bipush 2 C 50 dX3_isSunCounted_0 rfl (by decide) ?_
  refine g_aload_n 3 C dX3_isSunCounted_2 rfl rfl rfl ?_
  refine g_get 6 C (own := RX3) (C1 := RX3) (T := TX3) 0 7 (.ref (ad 12)) kiX3_isSunCounted_X3 kfX3_isSunCounted_45 rfl dX3_isSunCounted_3 rfl rfl rfl (by decide) rfl ?_
  refine g_get 9 C (own := RX3) (C1 := RX0) (T := TX0) 12 0 (.int (σ 12 0)) kiX3_isSunCounted_X0 kfX3_isSunCounted_77 rfl dX3_isSunCounted_6 rfl rfl rfl (by decide) rfl ?_
  refine g_iadd 10 C dX3_isSunCounted_9 rfl ?_
  obtain ⟨y1, ey1, hF⟩ := sg_letE hF
  refine g_top ey1 ?_
  refine g_istore_n 11 C [(1, .int y1), (0, .ref (ad 0))] dX3_isSunCounted_10 rfl rfl (by decide) rfl ?_
  refine g_iload_n 12 C dX3_isSunCounted_11 rfl rfl rfl ?_
  refine g_aload_n 13 C dX3_isSunCounted_12 rfl rfl rfl ?_
  refine g_get 16 C (own := RX3) (C1 := RX3) (T := TX3) 0 1 (.ref (ad 1)) kiX3_isSunCounted_X3 kfX3_isSunCounted_15 rfl dX3_isSunCounted_13 rfl rfl rfl (by decide) rfl ?_
  obtain ⟨r2, q3, hF⟩ := sg_bndE hF
  refine g_callNi 19 C (w2 := (ww_X3 Y ad σ)) (As := [.ref (ad 1)]) (st := [.int y1]) (n0 := 1) [1] [0, 2, 3, 4, 5, 6, 7, 8, 9, 10, 11, 12] [0, 12, 1, 2, 3, 4, 5, 6, 7, 8, 9, 10, 11] (c_X7_sumOf l hZ (ad := (sg_e1 1 ad)) q3) gX3_isSunCounted_X7_sumOf_n80 hN.2.2.1 knX3_isSunCounted_X7 ksX3_isSunCounted_X7_sumOf ⟨by decide +kernel, by decide +kernel, rfl⟩ rfl ⟨Nat.le_of_ble_eq_true rfl, Nat.le_of_ble_eq_true rfl⟩ ⟨rfl, rfl, rfl, by decide, rfl, rfl⟩ rfl rfl (Nat.le_of_ble_eq_true rfl) ⟨Nat.le_refl _, Nat.le_refl _⟩ dX3_isSunCounted_16 rfl rfl ?_
  refine g_aload_n 20 C dX3_isSunCounted_19 rfl rfl rfl ?_
  refine g_get 23 C (own := RX3) (C1 := RX3) (T := TX3) 0 7 (.ref (ad 12)) kiX3_isSunCounted_X3 kfX3_isSunCounted_45 rfl dX3_isSunCounted_20 rfl rfl rfl (by decide) rfl ?_
  refine g_get 26 C (own := RX3) (C1 := RX0) (T := TX0) 12 1 (.int (σ 12 1)) kiX3_isSunCounted_X0 kfX3_isSunCounted_84 rfl dX3_isSunCounted_23 rfl rfl rfl (by decide) rfl ?_
  refine g_iadd 27 C dX3_isSunCounted_26 rfl ?_
  refine g_aload_n 28 C dX3_isSunCounted_27 rfl rfl rfl ?_
  refine g_get 31 C (own := RX3) (C1 := RX3) (T := TX3) 0 7 (.ref (ad 12)) kiX3_isSunCounted_X3 kfX3_isSunCounted_45 rfl dX3_isSunCounted_28 rfl rfl rfl (by decide) rfl ?_
  refine g_get 34 C (own := RX3) (C1 := RX0) (T := TX0) 12 2 (.int (σ 12 2)) kiX3_isSunCounted_X0 kfX3_isSunCounted_87 rfl dX3_isSunCounted_31 rfl rfl rfl (by decide) rfl ?_
  refine g_iadd 35 C dX3_isSunCounted_34 rfl ?_
  refine g_aload_n 36 C dX3_isSunCounted_35 rfl rfl rfl ?_
  refine g_get 39 C (own := RX3) (C1 := RX3) (T := TX3) 0 7 (.ref (ad 12)) kiX3_isSunCounted_X3 kfX3_isSunCounted_45 rfl dX3_isSunCounted_36 rfl rfl rfl (by decide) rfl ?_
  refine g_get 42 C (own := RX3) (C1 := RX0) (T := TX0) 12 3 (.int (σ 12 3)) kiX3_isSunCounted_X0 kfX3_isSunCounted_90 rfl dX3_isSunCounted_39 rfl rfl rfl (by decide) rfl ?_
  refine g_iadd 43 C dX3_isSunCounted_42 rfl ?_
  refine g_icmp_ne 46 50 C dX3_isSunCounted_43 (by decide) rfl hF (fun hF => ?_) (fun hF => ?_)
  · refine g_iconst 51 C 0 dX3_isSunCounted_50 rfl (by decide) ?_
    have e1 := sg_someE hF
    exact g_iret C hr rfl hQ hsz dX3_isSunCounted_51 e1.symm rfl
  · refine g_iconst 47 C 1 dX3_isSunCounted_46 rfl (by decide) ?_
    refine g_goto 51 C dX3_isSunCounted_47 (by decide) ?_
    have e1 := sg_someE hF
    exact g_iret C hr rfl hQ hsz dX3_isSunCounted_51 e1.symm rfl
theorem knX3_giveCredit_X7 : Cond.initialized RX7 ∈ wsX3_giveCredit := by decide +kernel
theorem ksX3_giveCredit_X7_isTown : Cond.static yX7_isTown ∈ wsX3_giveCredit := by decide +kernel
theorem kiX3_giveCredit_X3 : ∀ w ∈ u_ws RX3 TX3 8, w ∈ wsX3_giveCredit := by decide +kernel
theorem kfX3_giveCredit_15 : Cond.fieldLink RX3 15 "WeatherMinistry$Realm" "sun" "[I" ∈ wsX3_giveCredit := by decide +kernel
theorem kfX3_giveCredit_45 : Cond.fieldLink RX3 45 "WeatherMinistry$Realm" "books" "LWeatherMinistry$Books;" ∈ wsX3_giveCredit := by decide +kernel
theorem kiX3_giveCredit_X0 : ∀ w ∈ u_ws RX0 TX0 8, w ∈ wsX3_giveCredit := by decide +kernel
theorem kfX3_giveCredit_77 : Cond.fieldLink RX3 77 "WeatherMinistry$Books" "got" "I" ∈ wsX3_giveCredit := by decide +kernel
theorem kfX3_giveCredit_38 : Cond.fieldLink RX3 38 "WeatherMinistry$Realm" "credits" "LWeatherMinistry$Credits;" ∈ wsX3_giveCredit := by decide +kernel
theorem kfX3_giveCredit_9 : Cond.fieldLink RX3 9 "WeatherMinistry$Realm" "month" "I" ∈ wsX3_giveCredit := by decide +kernel
def f_X3_giveCredit (x1 : Int32) (x2 : Int32) (x3 : Int32) (σ : sg_S) : Option sg_S := sg_bnd (f_X7_isTown x1) (fun r1 => (if r1 = 0 then some σ else sg_grd (sg_in x1 5) (sg_let (sg_up σ 1 (x1.toNatClampNeg) ((σ 1 x1.toNatClampNeg) + x2)) (fun σ4 => sg_let (sg_up σ4 12 0 ((σ4 12 0) + x2)) (fun σ5 => sg_bnd (f_X1_add x1 x2 ((σ5 0 0) + x3) (sg_e1 8 σ5)) (fun τ6 => sg_let (sg_m1 8 4 σ5 τ6) (fun σ8 => some σ8)))))))
set_option maxHeartbeats 4000000 in
set_option maxRecDepth 100000 in
theorem c_X3_giveCredit (l : Launch) {D : va_G} {Y : Nat → ClassId} {Z : (Nat → Prop) → State → Heap → Prop} (hZ : sg_Zok Z) {ad : Nat → Nat} {σ : sg_S} {σ' : sg_S} {x1 x2 x3 : Int32} (hF : f_X3_giveCredit x1 x2 x3 σ = some σ') : sg_MV l yX3_giveCredit wsX3_giveCredit 1 23 D Y Z [.ref (ad 0), .int x1, .int x2, .int x3] (ww_X3 Y ad σ) (ww_X3 Y ad σ') := by
  intro sz
  refine sg_enter (own := RX3) (maxL := 4) (ret := none) (cc := cX3_giveCredit) (by decide +kernel) rfl rfl (Nat.le_of_ble_eq_true rfl) hZ ?_
  intro p e s m args below meth c C hr Q hQ hsz
  have hN := hZ.2.2.2.1 _ _ _ C.2.2.2.2.2.2.2.2.1
  refine g_lv (lv2 := [(0, .ref (ad 0)), (1, .int x1), (2, .int x2), (3, .int x3)]) [0, 1, 2, 3] rfl ?_
  rw [f_X3_giveCredit] at hF
  refine g_iload_n 1 C dX3_giveCredit_0 rfl rfl rfl ?_
  obtain ⟨r1, q2, hF⟩ := sg_bndE hF
  refine g_callNi 4 C (w2 := (ww_X3 Y ad σ)) (As := [.int x1]) (st := []) (n0 := 1) [] [0, 1, 2, 3, 4, 5, 6, 7, 8, 9, 10, 11, 12] [0, 1, 2, 3, 4, 5, 6, 7, 8, 9, 10, 11, 12] (c_X7_isTown l hZ (ad := ad) (σ := σ) q2) gX3_giveCredit_X7_isTown_n65 hN.2.1 knX3_giveCredit_X7 ksX3_giveCredit_X7_isTown ⟨by decide +kernel, by decide +kernel, rfl⟩ rfl ⟨Nat.le_of_ble_eq_true rfl, Nat.le_of_ble_eq_true rfl⟩ ⟨rfl, rfl, rfl, by decide, rfl, rfl⟩ rfl rfl (Nat.le_of_ble_eq_true rfl) ⟨Nat.le_refl _, Nat.le_refl _⟩ dX3_giveCredit_1 rfl rfl ?_
  refine g_if_eq 7 45 C dX3_giveCredit_4 (by decide) rfl hF (fun hF => ?_) (fun hF => ?_)
  · have e2 := sg_someE hF
    exact g_vret C hr hQ hsz dX3_giveCredit_45 (by rw [e2])
  · refine g_aload_n 8 C dX3_giveCredit_7 rfl rfl rfl ?_
    refine g_get 11 C (own := RX3) (C1 := RX3) (T := TX3) 0 1 (.ref (ad 1)) kiX3_giveCredit_X3 kfX3_giveCredit_15 rfl dX3_giveCredit_8 rfl rfl rfl (by decide) rfl ?_
    refine g_iload_n 12 C dX3_giveCredit_11 rfl rfl rfl ?_
    refine g_dup2 13 C dX3_giveCredit_12 rfl rfl rfl ?_
    obtain ⟨h3, hF⟩ := sg_grdE hF
    refine g_ialdc 14 C 1 (x1.toNatClampNeg) (σ 1 x1.toNatClampNeg) dX3_giveCredit_13 rfl rfl rfl h3 rfl ?_
    refine g_iload_n 15 C dX3_giveCredit_14 rfl rfl rfl ?_
    refine g_iadd 16 C dX3_giveCredit_15 rfl ?_
    obtain ⟨σ4, eσ4, hF⟩ := sg_letE hF
    refine g_iast 17 C (w2 := (ww_X3 Y ad σ4)) 1 dX3_giveCredit_16 rfl rfl h3 (by rw [eσ4]; rfl) ?_
    refine g_aload_n 18 C dX3_giveCredit_17 rfl rfl rfl ?_
    refine g_get 21 C (own := RX3) (C1 := RX3) (T := TX3) 0 7 (.ref (ad 12)) kiX3_giveCredit_X3 kfX3_giveCredit_45 rfl dX3_giveCredit_18 rfl rfl rfl (by decide) rfl ?_
    refine g_dup 22 C dX3_giveCredit_21 rfl rfl ?_
    refine g_get 25 C (own := RX3) (C1 := RX0) (T := TX0) 12 0 (.int (σ4 12 0)) kiX3_giveCredit_X0 kfX3_giveCredit_77 rfl dX3_giveCredit_22 rfl rfl rfl (by decide) rfl ?_
    refine g_iload_n 26 C dX3_giveCredit_25 rfl rfl rfl ?_
    refine g_iadd 27 C dX3_giveCredit_26 rfl ?_
    obtain ⟨σ5, eσ5, hF⟩ := sg_letE hF
    refine g_put 30 C (own := RX3) (C1 := RX0) (T := TX0) (w2 := (ww_X3 Y ad σ5)) 12 0 tyX0 tyX0_ok nmX0 kiX3_giveCredit_X0 kfX3_giveCredit_77 rfl rfl (ty := .int) (by decide) rfl rfl (sg_blt rfl) dX3_giveCredit_27 rfl rfl rfl (by decide) (by rw [eσ5]; rfl) ?_
    refine g_aload_n 31 C dX3_giveCredit_30 rfl rfl rfl ?_
    refine g_get 34 C (own := RX3) (C1 := RX3) (T := TX3) 0 6 (.ref (ad 8)) kiX3_giveCredit_X3 kfX3_giveCredit_38 rfl dX3_giveCredit_31 rfl rfl rfl (by decide) rfl ?_
    refine g_iload_n 35 C dX3_giveCredit_34 rfl rfl rfl ?_
    refine g_iload_n 36 C dX3_giveCredit_35 rfl rfl rfl ?_
    refine g_aload_n 37 C dX3_giveCredit_36 rfl rfl rfl ?_
    refine g_get 40 C (own := RX3) (C1 := RX3) (T := TX3) 0 0 (.int (σ5 0 0)) kiX3_giveCredit_X3 kfX3_giveCredit_9 rfl dX3_giveCredit_37 rfl rfl rfl (by decide) rfl ?_
    refine g_iload_n 41 C dX3_giveCredit_40 rfl rfl rfl ?_
    refine g_iadd 42 C dX3_giveCredit_41 rfl ?_
    obtain ⟨τ6, q7, hF⟩ := sg_bndE hF
    obtain ⟨σ8, eσ8, hF⟩ := sg_letE hF
    refine g_callVv 45 C (w2 := (ww_X3 Y ad σ8)) (As := [.int x1, .int x2, .int ((σ5 0 0) + x3)]) (st := []) (n0 := 3) (ci := 3) (q0 := 8) [8, 9, 10, 11] [0, 1, 2, 3, 4, 5, 6, 7, 12] [0, 1, 2, 3, 4, 5, 6, 7, 9, 10, 11, 12, 8] (c_X1_add l hZ (ad := (sg_e1 8 ad)) q7) gX3_giveCredit_X1_add ⟨rfl, by decide +kernel, by decide +kernel, rfl⟩ rfl ⟨Nat.le_of_ble_eq_true rfl, Nat.le_of_ble_eq_true rfl⟩ rfl rfl (by subst eσ8; exact ⟨rfl, rfl, rfl, by decide, rfl, rfl⟩) rfl rfl (Nat.le_of_ble_eq_true rfl) ⟨Nat.le_refl _, Nat.le_refl _⟩ dX3_giveCredit_42 rfl rfl ?_
    have e2 := sg_someE hF
    exact g_vret C hr hQ hsz dX3_giveCredit_45 (by rw [e2])
theorem kiX3_letRain_X3 : ∀ w ∈ u_ws RX3 TX3 8, w ∈ wsX3_letRain := by decide +kernel
theorem kfX3_letRain_31 : Cond.fieldLink RX3 31 "WeatherMinistry$Realm" "treaties" "LWeatherMinistry$Treaties;" ∈ wsX3_letRain := by decide +kernel
theorem kfX3_letRain_19 : Cond.fieldLink RX3 19 "WeatherMinistry$Realm" "rain" "[I" ∈ wsX3_letRain := by decide +kernel
theorem kiX3_letRain_X6 : ∀ w ∈ u_ws RX6 TX6 2, w ∈ wsX3_letRain := by decide +kernel
theorem kfX3_letRain_101 : Cond.fieldLink RX3 101 "WeatherMinistry$Treaties" "drizzled" "[I" ∈ wsX3_letRain := by decide +kernel
theorem kmX3_letRain_104 : Cond.methodLink RX3 104 Lib.Math.min.name ∈ wsX3_letRain := by decide +kernel
theorem ksX3_letRain_mmin : Cond.static Lib.Math.min.name ∈ wsX3_letRain := by decide +kernel
theorem knX3_letRain_math : Cond.initialized "java/lang/Math" ∈ wsX3_letRain := by decide +kernel
theorem kcX3_letRain_mmin : Cond.code Lib.Math.min.name Lib.Math.min.code 2 (some .int) ∈ wsX3_letRain := by decide +kernel
def f_X3_letRain_L14 (x1 : Int32) (x2 : Int32) : Nat → Int32 → Int32 → sg_S → Option (Int32 × sg_S)
  | 0, _, _, _ => none
  | nz + 1, z3, z4, σz => (if z4 < 5 then sg_grd (sg_in z4 5) (sg_let (sg_up σz 2 (z4.toNatClampNeg) (if (σz 2 z4.toNatClampNeg) + (σz 7 z4.toNatClampNeg) < 60 then (σz 2 z4.toNatClampNeg) + (σz 7 z4.toNatClampNeg) else 60)) (fun σ5 => sg_let (z3 + (σ5 7 z4.toNatClampNeg)) (fun y6 => f_X3_letRain_L14 x1 x2 nz y6 (z4 + 1) σ5))) else some (z3, σz))
def f_X3_letRain (x1 : Int32) (x2 : Int32) (σ : sg_S) : Option (Int32 × sg_S) := sg_bnd (f_X6_spread x1 x2 (sg_e1 5 σ)) (fun τ1 => sg_let (sg_m1 5 3 σ τ1) (fun σ3 => f_X3_letRain_L14 x1 x2 1000 0 0 σ3))
set_option maxHeartbeats 4000000 in
set_option maxRecDepth 100000 in
theorem c_X3_letRain (l : Launch) {D : va_G} {Y : Nat → ClassId} {Z : (Nat → Prop) → State → Heap → Prop} (hZ : sg_Zok Z) {ad : Nat → Nat} {σ : sg_S} {σ' : sg_S} {x1 x2 : Int32} {r : Int32} (hF : f_X3_letRain x1 x2 σ = some (r, σ')) : sg_MI l yX3_letRain wsX3_letRain 1 26 D Y Z [.ref (ad 0), .int x1, .int x2] (ww_X3 Y ad σ) r (ww_X3 Y ad σ') := by
  intro sz
  refine sg_enter (own := RX3) (maxL := 5) (ret := (some .int)) (cc := cX3_letRain) (by decide +kernel) rfl rfl (Nat.le_of_ble_eq_true rfl) hZ ?_
  intro p e s m args below meth c C hr Q hQ hsz
  refine g_lv (lv2 := [(0, .ref (ad 0)), (1, .int x1), (2, .int x2)]) [0, 1, 2] rfl ?_
  have K14 : ∀ (nz : Nat), ∀ (z3 : Int32) (z4 : Int32) (σz : sg_S), f_X3_letRain_L14 x1 x2 nz z3 z4 σz = some (r, σ') → sg_G p l e ({ frames := 1, cells := 0, slots := 0, locals := 26 } : Room) s m args below meth c D (va_A (ww_X3 Y ad σ) s.heap.size) 5 0 0 Q 14 [(0, .ref (ad 0)), (3, .int z3), (4, .int z4)] [] (ww_X3 Y ad σz) := by
    intro nz
    induction nz with
    | zero =>
      intro z3 z4 σz hF
      rw [f_X3_letRain_L14.eq_1] at hF
      exact nomatch hF
    | succ nz ih =>
      intro z3 z4 σz hF
      rw [f_X3_letRain_L14.eq_2] at hF
      refine g_iload 16 C dX3_letRain_14 rfl rfl ?_
      refine g_iconst 17 C 5 dX3_letRain_16 rfl (by decide) ?_
      refine g_icmp_ge 20 69 C dX3_letRain_17 (by decide) rfl hF (fun hF => ?_) (fun hF => ?_)
      · refine g_iload_n 70 C dX3_letRain_69 rfl rfl rfl ?_
        obtain ⟨e1, e2⟩ := sg_pairE hF
        exact g_iret C hr rfl hQ hsz dX3_letRain_70 e1.symm (by rw [e2])
      · refine g_aload_n 21 C dX3_letRain_20 rfl rfl rfl ?_
        refine g_get 24 C (own := RX3) (C1 := RX3) (T := TX3) 0 2 (.ref (ad 2)) kiX3_letRain_X3 kfX3_letRain_19 rfl dX3_letRain_21 rfl rfl rfl (by decide) rfl ?_
        refine g_iload 26 C dX3_letRain_24 rfl rfl ?_
        refine g_bipush 28 C 60 dX3_letRain_26 rfl (by decide) ?_
        refine g_aload_n 29 C dX3_letRain_28 rfl rfl rfl ?_
        refine g_get 32 C (own := RX3) (C1 := RX3) (T := TX3) 0 2 (.ref (ad 2)) kiX3_letRain_X3 kfX3_letRain_19 rfl dX3_letRain_29 rfl rfl rfl (by decide) rfl ?_
        refine g_iload 34 C dX3_letRain_32 rfl rfl ?_
        obtain ⟨h4, hF⟩ := sg_grdE hF
        refine g_ialdc 35 C 2 (z4.toNatClampNeg) (σz 2 z4.toNatClampNeg) dX3_letRain_34 rfl rfl rfl h4 rfl ?_
        refine g_aload_n 36 C dX3_letRain_35 rfl rfl rfl ?_
        refine g_get 39 C (own := RX3) (C1 := RX3) (T := TX3) 0 5 (.ref (ad 5)) kiX3_letRain_X3 kfX3_letRain_31 rfl dX3_letRain_36 rfl rfl rfl (by decide) rfl ?_
        refine g_get 42 C (own := RX3) (C1 := RX6) (T := TX6) 5 1 (.ref (ad 7)) kiX3_letRain_X6 kfX3_letRain_101 rfl dX3_letRain_39 rfl rfl rfl (by decide) rfl ?_
        refine g_iload 44 C dX3_letRain_42 rfl rfl ?_
        refine g_ialdc 45 C 7 (z4.toNatClampNeg) (σz 7 z4.toNatClampNeg) dX3_letRain_44 rfl rfl rfl h4 rfl ?_
        refine g_iadd 46 C dX3_letRain_45 rfl ?_
        refine g_mmin 49 C kmX3_letRain_104 ksX3_letRain_mmin knX3_letRain_math kcX3_letRain_mmin (Nat.le_of_ble_eq_true rfl) (Nat.le_of_ble_eq_true rfl) (Nat.le_refl _) (Nat.le_refl _) dX3_letRain_46 rfl ?_
        obtain ⟨σ5, eσ5, hF⟩ := sg_letE hF
        refine g_iast 50 C (w2 := (ww_X3 Y ad σ5)) 2 dX3_letRain_49 rfl rfl h4 (by rw [eσ5]; rfl) ?_
        refine g_iload_n 51 C dX3_letRain_50 rfl rfl rfl ?_
        refine g_aload_n 52 C dX3_letRain_51 rfl rfl rfl ?_
        refine g_get 55 C (own := RX3) (C1 := RX3) (T := TX3) 0 5 (.ref (ad 5)) kiX3_letRain_X3 kfX3_letRain_31 rfl dX3_letRain_52 rfl rfl rfl (by decide) rfl ?_
        refine g_get 58 C (own := RX3) (C1 := RX6) (T := TX6) 5 1 (.ref (ad 7)) kiX3_letRain_X6 kfX3_letRain_101 rfl dX3_letRain_55 rfl rfl rfl (by decide) rfl ?_
        refine g_iload 60 C dX3_letRain_58 rfl rfl ?_
        refine g_ialdc 61 C 7 (z4.toNatClampNeg) (σ5 7 z4.toNatClampNeg) dX3_letRain_60 rfl rfl rfl h4 rfl ?_
        refine g_iadd 62 C dX3_letRain_61 rfl ?_
        obtain ⟨y6, ey6, hF⟩ := sg_letE hF
        refine g_top ey6 ?_
        refine g_istore_n 63 C [(3, .int y6), (0, .ref (ad 0)), (4, .int z4)] dX3_letRain_62 rfl rfl (by decide) rfl ?_
        refine g_iinc 66 C 2 (z4 + 1) [(4, .int (z4 + 1)), (3, .int y6), (0, .ref (ad 0))] dX3_letRain_63 rfl rfl rfl (by decide) rfl ?_
        refine g_goto 14 C dX3_letRain_66 (by decide) ?_
        refine g_lv (lv2 := [(0, .ref (ad 0)), (3, .int y6), (4, .int (z4 + 1))]) [2, 1, 0] rfl ?_
        exact ih y6 (z4 + 1) σ5 hF
  rw [f_X3_letRain] at hF
  refine g_aload_n 1 C dX3_letRain_0 rfl rfl rfl ?_
  refine g_get 4 C (own := RX3) (C1 := RX3) (T := TX3) 0 5 (.ref (ad 5)) kiX3_letRain_X3 kfX3_letRain_31 rfl dX3_letRain_1 rfl rfl rfl (by decide) rfl ?_
  refine g_iload_n 5 C dX3_letRain_4 rfl rfl rfl ?_
  refine g_iload_n 6 C dX3_letRain_5 rfl rfl rfl ?_
  obtain ⟨τ1, q2, hF⟩ := sg_bndE hF
  obtain ⟨σ3, eσ3, hF⟩ := sg_letE hF
  refine g_callVv 9 C (w2 := (ww_X3 Y ad σ3)) (As := [.int x1, .int x2]) (st := []) (n0 := 2) (ci := 8) (q0 := 5) [5, 6, 7] [0, 1, 2, 3, 4, 8, 9, 10, 11, 12] [0, 1, 2, 3, 4, 10, 11, 12, 5, 6, 7, 8, 9] (c_X6_spread l hZ (ad := (sg_e1 5 ad)) q2) gX3_letRain_X6_spread ⟨rfl, by decide +kernel, by decide +kernel, rfl⟩ rfl ⟨Nat.le_of_ble_eq_true rfl, Nat.le_of_ble_eq_true rfl⟩ rfl rfl (by subst eσ3; exact ⟨rfl, rfl, rfl, by decide, rfl, rfl⟩) rfl rfl (Nat.le_of_ble_eq_true rfl) ⟨Nat.le_refl _, Nat.le_refl _⟩ dX3_letRain_6 rfl rfl ?_
  refine g_iconst 10 C 0 dX3_letRain_9 rfl (by decide) ?_
  refine g_istore_n 11 C [(3, .int 0), (0, .ref (ad 0)), (1, .int x1), (2, .int x2)] dX3_letRain_10 rfl rfl (by decide) rfl ?_
  refine g_iconst 12 C 0 dX3_letRain_11 rfl (by decide) ?_
  refine g_istore 14 C [(4, .int 0), (3, .int 0), (0, .ref (ad 0)), (1, .int x1), (2, .int x2)] dX3_letRain_12 rfl (by decide) rfl ?_
  refine g_lv (lv2 := [(0, .ref (ad 0)), (3, .int 0), (4, .int 0)]) [2, 1, 0] rfl ?_
  exact K14  1000 0 0 σ3 hF
theorem knX3_payFor_X7 : Cond.initialized RX7 ∈ wsX3_payFor := by decide +kernel
theorem ksX3_payFor_X7_isTown : Cond.static yX7_isTown ∈ wsX3_payFor := by decide +kernel
theorem kiX3_payFor_X3 : ∀ w ∈ u_ws RX3 TX3 8, w ∈ wsX3_payFor := by decide +kernel
theorem kfX3_payFor_15 : Cond.fieldLink RX3 15 "WeatherMinistry$Realm" "sun" "[I" ∈ wsX3_payFor := by decide +kernel
theorem kmX3_payFor_104 : Cond.methodLink RX3 104 Lib.Math.min.name ∈ wsX3_payFor := by decide +kernel
theorem ksX3_payFor_mmin : Cond.static Lib.Math.min.name ∈ wsX3_payFor := by decide +kernel
theorem knX3_payFor_math : Cond.initialized "java/lang/Math" ∈ wsX3_payFor := by decide +kernel
theorem kcX3_payFor_mmin : Cond.code Lib.Math.min.name Lib.Math.min.code 2 (some .int) ∈ wsX3_payFor := by decide +kernel
theorem kfX3_payFor_25 : Cond.fieldLink RX3 25 "WeatherMinistry$Realm" "arrears" "[I" ∈ wsX3_payFor := by decide +kernel
theorem kfX3_payFor_45 : Cond.fieldLink RX3 45 "WeatherMinistry$Realm" "books" "LWeatherMinistry$Books;" ∈ wsX3_payFor := by decide +kernel
theorem kiX3_payFor_X0 : ∀ w ∈ u_ws RX0 TX0 8, w ∈ wsX3_payFor := by decide +kernel
theorem kfX3_payFor_84 : Cond.fieldLink RX3 84 "WeatherMinistry$Books" "paid" "I" ∈ wsX3_payFor := by decide +kernel
theorem kfX3_payFor_147 : Cond.fieldLink RX3 147 "WeatherMinistry$Books" "rainedBack" "I" ∈ wsX3_payFor := by decide +kernel
theorem kfX3_payFor_150 : Cond.fieldLink RX3 150 "WeatherMinistry$Books" "ended" "I" ∈ wsX3_payFor := by decide +kernel
theorem kfX3_payFor_153 : Cond.fieldLink RX3 153 "WeatherMinistry$Books" "endedInFull" "I" ∈ wsX3_payFor := by decide +kernel
def f_X3_payFor (x1 : Int32) (x2 : Int32) (σ : sg_S) : Option (Int32 × sg_S) := sg_bnd (f_X7_isTown x1) (fun r1 => (if r1 = 0 then some (0, σ) else sg_grd (sg_in x1 5) (sg_let (if x2 < σ 1 x1.toNatClampNeg then x2 else σ 1 x1.toNatClampNeg) (fun y4 => sg_let (x2 - y4) (fun y5 => sg_let (sg_up σ 1 (x1.toNatClampNeg) ((σ 1 x1.toNatClampNeg) - y4)) (fun σ6 => sg_let (sg_up σ6 4 (x1.toNatClampNeg) ((σ6 4 x1.toNatClampNeg) + y5)) (fun σ7 => sg_let (sg_up σ7 12 1 ((σ7 12 1) + y4)) (fun σ8 => sg_let (sg_up σ8 12 5 ((σ8 12 5) + (2 * y5))) (fun σ9 => sg_let (sg_up σ9 12 6 ((σ9 12 6) + 1)) (fun σ10 => (if y5 = 0 then sg_let (sg_up σ10 12 7 ((σ10 12 7) + 1)) (fun σ11 => some (y5, σ11)) else some (y5, σ10))))))))))))
set_option maxHeartbeats 4000000 in
set_option maxRecDepth 100000 in
theorem c_X3_payFor (l : Launch) {D : va_G} {Y : Nat → ClassId} {Z : (Nat → Prop) → State → Heap → Prop} (hZ : sg_Zok Z) {ad : Nat → Nat} {σ : sg_S} {σ' : sg_S} {x1 x2 : Int32} {r : Int32} (hF : f_X3_payFor x1 x2 σ = some (r, σ')) : sg_MI l yX3_payFor wsX3_payFor 1 21 D Y Z [.ref (ad 0), .int x1, .int x2] (ww_X3 Y ad σ) r (ww_X3 Y ad σ') := by
  intro sz
  refine sg_enter (own := RX3) (maxL := 5) (ret := (some .int)) (cc := cX3_payFor) (by decide +kernel) rfl rfl (Nat.le_of_ble_eq_true rfl) hZ ?_
  intro p e s m args below meth c C hr Q hQ hsz
  have hN := hZ.2.2.2.1 _ _ _ C.2.2.2.2.2.2.2.2.1
  refine g_lv (lv2 := [(0, .ref (ad 0)), (1, .int x1), (2, .int x2)]) [0, 1, 2] rfl ?_
  rw [f_X3_payFor] at hF
  refine g_iload_n 1 C dX3_payFor_0 rfl rfl rfl ?_
  obtain ⟨r1, q2, hF⟩ := sg_bndE hF
  refine g_callNi 4 C (w2 := (ww_X3 Y ad σ)) (As := [.int x1]) (st := []) (n0 := 1) [] [0, 1, 2, 3, 4, 5, 6, 7, 8, 9, 10, 11, 12] [0, 1, 2, 3, 4, 5, 6, 7, 8, 9, 10, 11, 12] (c_X7_isTown l hZ (ad := ad) (σ := σ) q2) gX3_payFor_X7_isTown_n65 hN.2.1 knX3_payFor_X7 ksX3_payFor_X7_isTown ⟨by decide +kernel, by decide +kernel, rfl⟩ rfl ⟨Nat.le_of_ble_eq_true rfl, Nat.le_of_ble_eq_true rfl⟩ ⟨rfl, rfl, rfl, by decide, rfl, rfl⟩ rfl rfl (Nat.le_of_ble_eq_true rfl) ⟨Nat.le_refl _, Nat.le_refl _⟩ dX3_payFor_1 rfl rfl ?_
  refine g_if_ne 7 9 C dX3_payFor_4 (by decide) rfl hF (fun hF => ?_) (fun hF => ?_)
  · refine g_aload_n 10 C dX3_payFor_9 rfl rfl rfl ?_
    refine g_get 13 C (own := RX3) (C1 := RX3) (T := TX3) 0 1 (.ref (ad 1)) kiX3_payFor_X3 kfX3_payFor_15 rfl dX3_payFor_10 rfl rfl rfl (by decide) rfl ?_
    refine g_iload_n 14 C dX3_payFor_13 rfl rfl rfl ?_
    obtain ⟨h3, hF⟩ := sg_grdE hF
    refine g_ialdc 15 C 1 (x1.toNatClampNeg) (σ 1 x1.toNatClampNeg) dX3_payFor_14 rfl rfl rfl h3 rfl ?_
    refine g_iload_n 16 C dX3_payFor_15 rfl rfl rfl ?_
    refine g_mmin 19 C kmX3_payFor_104 ksX3_payFor_mmin knX3_payFor_math kcX3_payFor_mmin (Nat.le_of_ble_eq_true rfl) (Nat.le_of_ble_eq_true rfl) (Nat.le_refl _) (Nat.le_refl _) dX3_payFor_16 rfl ?_
    obtain ⟨y4, ey4, hF⟩ := sg_letE hF
    refine g_top ey4 ?_
    refine g_istore_n 20 C [(3, .int y4), (0, .ref (ad 0)), (1, .int x1), (2, .int x2)] dX3_payFor_19 rfl rfl (by decide) rfl ?_
    refine g_iload_n 21 C dX3_payFor_20 rfl rfl rfl ?_
    refine g_iload_n 22 C dX3_payFor_21 rfl rfl rfl ?_
    refine g_isub 23 C dX3_payFor_22 rfl ?_
    obtain ⟨y5, ey5, hF⟩ := sg_letE hF
    refine g_top ey5 ?_
    refine g_istore 25 C [(4, .int y5), (3, .int y4), (0, .ref (ad 0)), (1, .int x1), (2, .int x2)] dX3_payFor_23 rfl (by decide) rfl ?_
    refine g_aload_n 26 C dX3_payFor_25 rfl rfl rfl ?_
    refine g_get 29 C (own := RX3) (C1 := RX3) (T := TX3) 0 1 (.ref (ad 1)) kiX3_payFor_X3 kfX3_payFor_15 rfl dX3_payFor_26 rfl rfl rfl (by decide) rfl ?_
    refine g_iload_n 30 C dX3_payFor_29 rfl rfl rfl ?_
    refine g_dup2 31 C dX3_payFor_30 rfl rfl rfl ?_
    refine g_ialdc 32 C 1 (x1.toNatClampNeg) (σ 1 x1.toNatClampNeg) dX3_payFor_31 rfl rfl rfl h3 rfl ?_
    refine g_iload_n 33 C dX3_payFor_32 rfl rfl rfl ?_
    refine g_isub 34 C dX3_payFor_33 rfl ?_
    obtain ⟨σ6, eσ6, hF⟩ := sg_letE hF
    refine g_iast 35 C (w2 := (ww_X3 Y ad σ6)) 1 dX3_payFor_34 rfl rfl h3 (by rw [eσ6]; rfl) ?_
    refine g_aload_n 36 C dX3_payFor_35 rfl rfl rfl ?_
    refine g_get 39 C (own := RX3) (C1 := RX3) (T := TX3) 0 4 (.ref (ad 4)) kiX3_payFor_X3 kfX3_payFor_25 rfl dX3_payFor_36 rfl rfl rfl (by decide) rfl ?_
    refine g_iload_n 40 C dX3_payFor_39 rfl rfl rfl ?_
    refine g_dup2 41 C dX3_payFor_40 rfl rfl rfl ?_
    refine g_ialdc 42 C 4 (x1.toNatClampNeg) (σ6 4 x1.toNatClampNeg) dX3_payFor_41 rfl rfl rfl h3 rfl ?_
    refine g_iload 44 C dX3_payFor_42 rfl rfl ?_
    refine g_iadd 45 C dX3_payFor_44 rfl ?_
    obtain ⟨σ7, eσ7, hF⟩ := sg_letE hF
    refine g_iast 46 C (w2 := (ww_X3 Y ad σ7)) 4 dX3_payFor_45 rfl rfl h3 (by rw [eσ7]; rfl) ?_
    refine g_aload_n 47 C dX3_payFor_46 rfl rfl rfl ?_
    refine g_get 50 C (own := RX3) (C1 := RX3) (T := TX3) 0 7 (.ref (ad 12)) kiX3_payFor_X3 kfX3_payFor_45 rfl dX3_payFor_47 rfl rfl rfl (by decide) rfl ?_
    refine g_dup 51 C dX3_payFor_50 rfl rfl ?_
    refine g_get 54 C (own := RX3) (C1 := RX0) (T := TX0) 12 1 (.int (σ7 12 1)) kiX3_payFor_X0 kfX3_payFor_84 rfl dX3_payFor_51 rfl rfl rfl (by decide) rfl ?_
    refine g_iload_n 55 C dX3_payFor_54 rfl rfl rfl ?_
    refine g_iadd 56 C dX3_payFor_55 rfl ?_
    obtain ⟨σ8, eσ8, hF⟩ := sg_letE hF
    refine g_put 59 C (own := RX3) (C1 := RX0) (T := TX0) (w2 := (ww_X3 Y ad σ8)) 12 1 tyX0 tyX0_ok nmX0 kiX3_payFor_X0 kfX3_payFor_84 rfl rfl (ty := .int) (by decide) rfl rfl (sg_blt rfl) dX3_payFor_56 rfl rfl rfl (by decide) (by rw [eσ8]; rfl) ?_
    refine g_aload_n 60 C dX3_payFor_59 rfl rfl rfl ?_
    refine g_get 63 C (own := RX3) (C1 := RX3) (T := TX3) 0 7 (.ref (ad 12)) kiX3_payFor_X3 kfX3_payFor_45 rfl dX3_payFor_60 rfl rfl rfl (by decide) rfl ?_
    refine g_dup 64 C dX3_payFor_63 rfl rfl ?_
    refine g_get 67 C (own := RX3) (C1 := RX0) (T := TX0) 12 5 (.int (σ8 12 5)) kiX3_payFor_X0 kfX3_payFor_147 rfl dX3_payFor_64 rfl rfl rfl (by decide) rfl ?_
    refine g_iconst 68 C 2 dX3_payFor_67 rfl (by decide) ?_
    refine g_iload 70 C dX3_payFor_68 rfl rfl ?_
    refine g_imul 71 C dX3_payFor_70 rfl ?_
    refine g_iadd 72 C dX3_payFor_71 rfl ?_
    obtain ⟨σ9, eσ9, hF⟩ := sg_letE hF
    refine g_put 75 C (own := RX3) (C1 := RX0) (T := TX0) (w2 := (ww_X3 Y ad σ9)) 12 5 tyX0 tyX0_ok nmX0 kiX3_payFor_X0 kfX3_payFor_147 rfl rfl (ty := .int) (by decide) rfl rfl (sg_blt rfl) dX3_payFor_72 rfl rfl rfl (by decide) (by rw [eσ9]; rfl) ?_
    refine g_aload_n 76 C dX3_payFor_75 rfl rfl rfl ?_
    refine g_get 79 C (own := RX3) (C1 := RX3) (T := TX3) 0 7 (.ref (ad 12)) kiX3_payFor_X3 kfX3_payFor_45 rfl dX3_payFor_76 rfl rfl rfl (by decide) rfl ?_
    refine g_dup 80 C dX3_payFor_79 rfl rfl ?_
    refine g_get 83 C (own := RX3) (C1 := RX0) (T := TX0) 12 6 (.int (σ9 12 6)) kiX3_payFor_X0 kfX3_payFor_150 rfl dX3_payFor_80 rfl rfl rfl (by decide) rfl ?_
    refine g_iconst 84 C 1 dX3_payFor_83 rfl (by decide) ?_
    refine g_iadd 85 C dX3_payFor_84 rfl ?_
    obtain ⟨σ10, eσ10, hF⟩ := sg_letE hF
    refine g_put 88 C (own := RX3) (C1 := RX0) (T := TX0) (w2 := (ww_X3 Y ad σ10)) 12 6 tyX0 tyX0_ok nmX0 kiX3_payFor_X0 kfX3_payFor_150 rfl rfl (ty := .int) (by decide) rfl rfl (sg_blt rfl) dX3_payFor_85 rfl rfl rfl (by decide) (by rw [eσ10]; rfl) ?_
    refine g_iload 90 C dX3_payFor_88 rfl rfl ?_
    refine g_if_ne 93 106 C dX3_payFor_90 (by decide) rfl hF (fun hF => ?_) (fun hF => ?_)
    · refine g_iload 108 C dX3_payFor_106 rfl rfl ?_
      obtain ⟨e1, e2⟩ := sg_pairE hF
      exact g_iret C hr rfl hQ hsz dX3_payFor_108 e1.symm (by rw [e2])
    · refine g_aload_n 94 C dX3_payFor_93 rfl rfl rfl ?_
      refine g_get 97 C (own := RX3) (C1 := RX3) (T := TX3) 0 7 (.ref (ad 12)) kiX3_payFor_X3 kfX3_payFor_45 rfl dX3_payFor_94 rfl rfl rfl (by decide) rfl ?_
      refine g_dup 98 C dX3_payFor_97 rfl rfl ?_
      refine g_get 101 C (own := RX3) (C1 := RX0) (T := TX0) 12 7 (.int (σ10 12 7)) kiX3_payFor_X0 kfX3_payFor_153 rfl dX3_payFor_98 rfl rfl rfl (by decide) rfl ?_
      refine g_iconst 102 C 1 dX3_payFor_101 rfl (by decide) ?_
      refine g_iadd 103 C dX3_payFor_102 rfl ?_
      obtain ⟨σ11, eσ11, hF⟩ := sg_letE hF
      refine g_put 106 C (own := RX3) (C1 := RX0) (T := TX0) (w2 := (ww_X3 Y ad σ11)) 12 7 tyX0 tyX0_ok nmX0 kiX3_payFor_X0 kfX3_payFor_153 rfl rfl (ty := .int) (by decide) rfl rfl (sg_blt rfl) dX3_payFor_103 rfl rfl rfl (by decide) (by rw [eσ11]; rfl) ?_
      refine g_iload 108 C dX3_payFor_106 rfl rfl ?_
      obtain ⟨e1, e2⟩ := sg_pairE hF
      exact g_iret C hr rfl hQ hsz dX3_payFor_108 e1.symm (by rw [e2])
  · refine g_iconst 8 C 0 dX3_payFor_7 rfl (by decide) ?_
    obtain ⟨e1, e2⟩ := sg_pairE hF
    exact g_iret C hr rfl hQ hsz dX3_payFor_8 e1.symm (by rw [e2])
theorem kiX3_endCredits_X3 : ∀ w ∈ u_ws RX3 TX3 8, w ∈ wsX3_endCredits := by decide +kernel
theorem kfX3_endCredits_38 : Cond.fieldLink RX3 38 "WeatherMinistry$Realm" "credits" "LWeatherMinistry$Credits;" ∈ wsX3_endCredits := by decide +kernel
theorem kiX3_endCredits_X1 : ∀ w ∈ u_ws RX1 TX1 4, w ∈ wsX3_endCredits := by decide +kernel
theorem kfX3_endCredits_126 : Cond.fieldLink RX3 126 "WeatherMinistry$Credits" "count" "I" ∈ wsX3_endCredits := by decide +kernel
theorem kfX3_endCredits_129 : Cond.fieldLink RX3 129 "WeatherMinistry$Credits" "ends" "[I" ∈ wsX3_endCredits := by decide +kernel
theorem kfX3_endCredits_9 : Cond.fieldLink RX3 9 "WeatherMinistry$Realm" "month" "I" ∈ wsX3_endCredits := by decide +kernel
theorem kfX3_endCredits_135 : Cond.fieldLink RX3 135 "WeatherMinistry$Credits" "towns" "[I" ∈ wsX3_endCredits := by decide +kernel
theorem kfX3_endCredits_138 : Cond.fieldLink RX3 138 "WeatherMinistry$Credits" "hours" "[I" ∈ wsX3_endCredits := by decide +kernel
def f_X3_endCredits_L6 : Nat → Int32 → Int32 → Int32 → sg_S → Option (Int32 × sg_S)
  | 0, _, _, _, _ => none
  | nz + 1, z1, z2, z3, σz => (if z3 < σz 8 0 then sg_grd (sg_in z3 8) ((if σz 11 z3.toNatClampNeg = σz 0 0 then sg_bnd2 (f_X3_payFor (σz 9 z3.toNatClampNeg) (σz 10 z3.toNatClampNeg) σz) (fun r5 τ3 => (if 0 < r5 then sg_bnd2 (f_X3_letRain (τ3 9 z3.toNatClampNeg) (2 * r5) τ3) (fun r8 τ6 => f_X3_endCredits_L6 nz (z1 + 1) z2 (z3 + 1) τ6) else f_X3_endCredits_L6 nz z1 z2 (z3 + 1) τ3)) else sg_bnd (f_X1_move z3 z2 (sg_e1 8 σz)) (fun τ9 => sg_let (sg_m1 8 4 σz τ9) (fun σ11 => f_X3_endCredits_L6 nz z1 (z2 + 1) (z3 + 1) σ11)))) else sg_let (sg_up σz 8 0 z2) (fun σ1 => some (z1, σ1)))
def f_X3_endCredits  (σ : sg_S) : Option (Int32 × sg_S) := f_X3_endCredits_L6 1000 0 0 0 σ
set_option maxHeartbeats 4000000 in
set_option maxRecDepth 100000 in
theorem c_X3_endCredits (l : Launch) {D : va_G} {Y : Nat → ClassId} {Z : (Nat → Prop) → State → Heap → Prop} (hZ : sg_Zok Z) {ad : Nat → Nat} {σ : sg_S} {σ' : sg_S} {r : Int32} (hF : f_X3_endCredits  σ = some (r, σ')) : sg_MI l yX3_endCredits wsX3_endCredits 2 50 D Y Z [.ref (ad 0)] (ww_X3 Y ad σ) r (ww_X3 Y ad σ') := by
  intro sz
  refine sg_enter (own := RX3) (maxL := 5) (ret := (some .int)) (cc := cX3_endCredits) (by decide +kernel) rfl rfl (Nat.le_of_ble_eq_true rfl) hZ ?_
  intro p e s m args below meth c C hr Q hQ hsz
  refine g_lv (lv2 := [(0, .ref (ad 0))]) [0] rfl ?_
  have K6 : ∀ (nz : Nat), ∀ (z1 : Int32) (z2 : Int32) (z3 : Int32) (σz : sg_S), f_X3_endCredits_L6 nz z1 z2 z3 σz = some (r, σ') → sg_G p l e ({ frames := 2, cells := 0, slots := 0, locals := 50 } : Room) s m args below meth c D (va_A (ww_X3 Y ad σ) s.heap.size) 5 0 0 Q 6 [(0, .ref (ad 0)), (1, .int z1), (2, .int z2), (3, .int z3)] [] (ww_X3 Y ad σz) := by
    intro nz
    induction nz with
    | zero =>
      intro z1 z2 z3 σz hF
      rw [f_X3_endCredits_L6.eq_1] at hF
      exact nomatch hF
    | succ nz ih =>
      intro z1 z2 z3 σz hF
      rw [f_X3_endCredits_L6.eq_2] at hF
      refine g_iload_n 7 C dX3_endCredits_6 rfl rfl rfl ?_
      refine g_aload_n 8 C dX3_endCredits_7 rfl rfl rfl ?_
      refine g_get 11 C (own := RX3) (C1 := RX3) (T := TX3) 0 6 (.ref (ad 8)) kiX3_endCredits_X3 kfX3_endCredits_38 rfl dX3_endCredits_8 rfl rfl rfl (by decide) rfl ?_
      refine g_get 14 C (own := RX3) (C1 := RX1) (T := TX1) 8 0 (.int (σz 8 0)) kiX3_endCredits_X1 kfX3_endCredits_126 rfl dX3_endCredits_11 rfl rfl rfl (by decide) rfl ?_
      refine g_icmp_ge 17 104 C dX3_endCredits_14 (by decide) rfl hF (fun hF => ?_) (fun hF => ?_)
      · refine g_aload_n 105 C dX3_endCredits_104 rfl rfl rfl ?_
        refine g_get 108 C (own := RX3) (C1 := RX3) (T := TX3) 0 6 (.ref (ad 8)) kiX3_endCredits_X3 kfX3_endCredits_38 rfl dX3_endCredits_105 rfl rfl rfl (by decide) rfl ?_
        refine g_iload_n 109 C dX3_endCredits_108 rfl rfl rfl ?_
        obtain ⟨σ1, eσ1, hF⟩ := sg_letE hF
        refine g_put 112 C (own := RX3) (C1 := RX1) (T := TX1) (w2 := (ww_X3 Y ad σ1)) 8 0 tyX1 tyX1_ok nmX1 kiX3_endCredits_X1 kfX3_endCredits_126 rfl rfl (ty := .int) (by decide) rfl rfl (sg_blt rfl) dX3_endCredits_109 rfl rfl rfl (by decide) (by rw [eσ1]; rfl) ?_
        refine g_iload_n 113 C dX3_endCredits_112 rfl rfl rfl ?_
        obtain ⟨e1, e2⟩ := sg_pairE hF
        exact g_iret C hr rfl hQ hsz dX3_endCredits_113 e1.symm (by rw [e2])
      · refine g_aload_n 18 C dX3_endCredits_17 rfl rfl rfl ?_
        refine g_get 21 C (own := RX3) (C1 := RX3) (T := TX3) 0 6 (.ref (ad 8)) kiX3_endCredits_X3 kfX3_endCredits_38 rfl dX3_endCredits_18 rfl rfl rfl (by decide) rfl ?_
        refine g_get 24 C (own := RX3) (C1 := RX1) (T := TX1) 8 3 (.ref (ad 11)) kiX3_endCredits_X1 kfX3_endCredits_129 rfl dX3_endCredits_21 rfl rfl rfl (by decide) rfl ?_
        refine g_iload_n 25 C dX3_endCredits_24 rfl rfl rfl ?_
        obtain ⟨h2, hF⟩ := sg_grdE hF
        refine g_ialdc 26 C 11 (z3.toNatClampNeg) (σz 11 z3.toNatClampNeg) dX3_endCredits_25 rfl rfl rfl h2 rfl ?_
        refine g_aload_n 27 C dX3_endCredits_26 rfl rfl rfl ?_
        refine g_get 30 C (own := RX3) (C1 := RX3) (T := TX3) 0 0 (.int (σz 0 0)) kiX3_endCredits_X3 kfX3_endCredits_9 rfl dX3_endCredits_27 rfl rfl rfl (by decide) rfl ?_
        refine g_icmp_eq 33 48 C dX3_endCredits_30 (by decide) rfl hF (fun hF => ?_) (fun hF => ?_)
        · refine g_aload_n 49 C dX3_endCredits_48 rfl rfl rfl ?_
          refine g_aload_n 50 C dX3_endCredits_49 rfl rfl rfl ?_
          refine g_get 53 C (own := RX3) (C1 := RX3) (T := TX3) 0 6 (.ref (ad 8)) kiX3_endCredits_X3 kfX3_endCredits_38 rfl dX3_endCredits_50 rfl rfl rfl (by decide) rfl ?_
          refine g_get 56 C (own := RX3) (C1 := RX1) (T := TX1) 8 1 (.ref (ad 9)) kiX3_endCredits_X1 kfX3_endCredits_135 rfl dX3_endCredits_53 rfl rfl rfl (by decide) rfl ?_
          refine g_iload_n 57 C dX3_endCredits_56 rfl rfl rfl ?_
          refine g_ialdc 58 C 9 (z3.toNatClampNeg) (σz 9 z3.toNatClampNeg) dX3_endCredits_57 rfl rfl rfl h2 rfl ?_
          refine g_aload_n 59 C dX3_endCredits_58 rfl rfl rfl ?_
          refine g_get 62 C (own := RX3) (C1 := RX3) (T := TX3) 0 6 (.ref (ad 8)) kiX3_endCredits_X3 kfX3_endCredits_38 rfl dX3_endCredits_59 rfl rfl rfl (by decide) rfl ?_
          refine g_get 65 C (own := RX3) (C1 := RX1) (T := TX1) 8 2 (.ref (ad 10)) kiX3_endCredits_X1 kfX3_endCredits_138 rfl dX3_endCredits_62 rfl rfl rfl (by decide) rfl ?_
          refine g_iload_n 66 C dX3_endCredits_65 rfl rfl rfl ?_
          refine g_ialdc 67 C 10 (z3.toNatClampNeg) (σz 10 z3.toNatClampNeg) dX3_endCredits_66 rfl rfl rfl h2 rfl ?_
          obtain ⟨r5, τ3, q4, hF⟩ := sg_bnd2E hF
          refine g_callVi 70 C (w2 := (ww_X3 Y ad τ3)) (As := [.int (σz 9 z3.toNatClampNeg), .int (σz 10 z3.toNatClampNeg)]) (st := []) (n0 := 2) (ci := 5) (q0 := 0) [0, 1, 2, 3, 4, 5, 6, 7, 8, 9, 10, 11, 12] [] [0, 1, 2, 3, 4, 5, 6, 7, 8, 9, 10, 11, 12] (c_X3_payFor l hZ (ad := ad) q4) gX3_endCredits_X3_payFor ⟨rfl, by decide +kernel, by decide +kernel, rfl⟩ rfl ⟨Nat.le_of_ble_eq_true rfl, Nat.le_of_ble_eq_true rfl⟩ rfl rfl ⟨rfl, rfl, rfl, by decide, rfl, rfl⟩ rfl rfl (Nat.le_of_ble_eq_true rfl) ⟨Nat.le_refl _, Nat.le_refl _⟩ dX3_endCredits_67 rfl rfl ?_
          refine g_istore 72 C [(4, .int r5), (0, .ref (ad 0)), (1, .int z1), (2, .int z2), (3, .int z3)] dX3_endCredits_70 rfl (by decide) rfl ?_
          refine g_iload 74 C dX3_endCredits_72 rfl rfl ?_
          refine g_if_le 77 98 C dX3_endCredits_74 (by decide) rfl hF (fun hF => ?_) (fun hF => ?_)
          · refine g_iinc 101 C 4 (z3 + 1) [(3, .int (z3 + 1)), (4, .int r5), (0, .ref (ad 0)), (1, .int z1), (2, .int z2)] dX3_endCredits_98 rfl rfl rfl (by decide) rfl ?_
            refine g_goto 6 C dX3_endCredits_101 (by decide) ?_
            refine g_lv (lv2 := [(0, .ref (ad 0)), (1, .int z1), (2, .int z2), (3, .int (z3 + 1))]) [2, 3, 4, 0] rfl ?_
            exact ih z1 z2 (z3 + 1) τ3 hF
          · refine g_iinc 80 C 2 (z1 + 1) [(1, .int (z1 + 1)), (4, .int r5), (0, .ref (ad 0)), (2, .int z2), (3, .int z3)] dX3_endCredits_77 rfl rfl rfl (by decide) rfl ?_
            refine g_aload_n 81 C dX3_endCredits_80 rfl rfl rfl ?_
            refine g_aload_n 82 C dX3_endCredits_81 rfl rfl rfl ?_
            refine g_get 85 C (own := RX3) (C1 := RX3) (T := TX3) 0 6 (.ref (ad 8)) kiX3_endCredits_X3 kfX3_endCredits_38 rfl dX3_endCredits_82 rfl rfl rfl (by decide) rfl ?_
            refine g_get 88 C (own := RX3) (C1 := RX1) (T := TX1) 8 1 (.ref (ad 9)) kiX3_endCredits_X1 kfX3_endCredits_135 rfl dX3_endCredits_85 rfl rfl rfl (by decide) rfl ?_
            refine g_iload_n 89 C dX3_endCredits_88 rfl rfl rfl ?_
            refine g_ialdc 90 C 9 (z3.toNatClampNeg) (τ3 9 z3.toNatClampNeg) dX3_endCredits_89 rfl rfl rfl h2 rfl ?_
            refine g_iconst 91 C 2 dX3_endCredits_90 rfl (by decide) ?_
            refine g_iload 93 C dX3_endCredits_91 rfl rfl ?_
            refine g_imul 94 C dX3_endCredits_93 rfl ?_
            obtain ⟨r8, τ6, q7, hF⟩ := sg_bnd2E hF
            refine g_callVi 97 C (w2 := (ww_X3 Y ad τ6)) (As := [.int (τ3 9 z3.toNatClampNeg), .int (2 * r5)]) (st := []) (n0 := 2) (ci := 5) (q0 := 0) [0, 1, 2, 3, 4, 5, 6, 7, 8, 9, 10, 11, 12] [] [0, 1, 2, 3, 4, 5, 6, 7, 8, 9, 10, 11, 12] (c_X3_letRain l hZ (ad := ad) q7) gX3_endCredits_X3_letRain ⟨rfl, by decide +kernel, by decide +kernel, rfl⟩ rfl ⟨Nat.le_of_ble_eq_true rfl, Nat.le_of_ble_eq_true rfl⟩ rfl rfl ⟨rfl, rfl, rfl, by decide, rfl, rfl⟩ rfl rfl (Nat.le_of_ble_eq_true rfl) ⟨Nat.le_refl _, Nat.le_refl _⟩ dX3_endCredits_94 rfl rfl ?_
            refine g_pop 98 C dX3_endCredits_97 rfl rfl ?_
            refine g_iinc 101 C 4 (z3 + 1) [(3, .int (z3 + 1)), (1, .int (z1 + 1)), (4, .int r5), (0, .ref (ad 0)), (2, .int z2)] dX3_endCredits_98 rfl rfl rfl (by decide) rfl ?_
            refine g_goto 6 C dX3_endCredits_101 (by decide) ?_
            refine g_lv (lv2 := [(0, .ref (ad 0)), (1, .int (z1 + 1)), (2, .int z2), (3, .int (z3 + 1))]) [3, 1, 4, 0] rfl ?_
            exact ih (z1 + 1) z2 (z3 + 1) τ6 hF
        · refine g_aload_n 34 C dX3_endCredits_33 rfl rfl rfl ?_
          refine g_get 37 C (own := RX3) (C1 := RX3) (T := TX3) 0 6 (.ref (ad 8)) kiX3_endCredits_X3 kfX3_endCredits_38 rfl dX3_endCredits_34 rfl rfl rfl (by decide) rfl ?_
          refine g_iload_n 38 C dX3_endCredits_37 rfl rfl rfl ?_
          refine g_iload_n 39 C dX3_endCredits_38 rfl rfl rfl ?_
          obtain ⟨τ9, q10, hF⟩ := sg_bndE hF
          obtain ⟨σ11, eσ11, hF⟩ := sg_letE hF
          refine g_callVv 42 C (w2 := (ww_X3 Y ad σ11)) (As := [.int z3, .int z2]) (st := []) (n0 := 2) (ci := 3) (q0 := 8) [8, 9, 10, 11] [0, 1, 2, 3, 4, 5, 6, 7, 12] [0, 1, 2, 3, 4, 5, 6, 7, 9, 10, 11, 12, 8] (c_X1_move l hZ (ad := (sg_e1 8 ad)) q10) gX3_endCredits_X1_move ⟨rfl, by decide +kernel, by decide +kernel, rfl⟩ rfl ⟨Nat.le_of_ble_eq_true rfl, Nat.le_of_ble_eq_true rfl⟩ rfl rfl (by subst eσ11; exact ⟨rfl, rfl, rfl, by decide, rfl, rfl⟩) rfl rfl (Nat.le_of_ble_eq_true rfl) ⟨Nat.le_refl _, Nat.le_refl _⟩ dX3_endCredits_39 rfl rfl ?_
          refine g_iinc 45 C 2 (z2 + 1) [(2, .int (z2 + 1)), (0, .ref (ad 0)), (1, .int z1), (3, .int z3)] dX3_endCredits_42 rfl rfl rfl (by decide) rfl ?_
          refine g_goto 98 C dX3_endCredits_45 (by decide) ?_
          refine g_iinc 101 C 3 (z3 + 1) [(3, .int (z3 + 1)), (2, .int (z2 + 1)), (0, .ref (ad 0)), (1, .int z1)] dX3_endCredits_98 rfl rfl rfl (by decide) rfl ?_
          refine g_goto 6 C dX3_endCredits_101 (by decide) ?_
          refine g_lv (lv2 := [(0, .ref (ad 0)), (1, .int z1), (2, .int (z2 + 1)), (3, .int (z3 + 1))]) [2, 3, 1, 0] rfl ?_
          exact ih z1 (z2 + 1) (z3 + 1) σ11 hF
  rw [f_X3_endCredits] at hF
  refine g_iconst 1 C 0 dX3_endCredits_0 rfl (by decide) ?_
  refine g_istore_n 2 C [(1, .int 0), (0, .ref (ad 0))] dX3_endCredits_1 rfl rfl (by decide) rfl ?_
  refine g_iconst 3 C 0 dX3_endCredits_2 rfl (by decide) ?_
  refine g_istore_n 4 C [(2, .int 0), (1, .int 0), (0, .ref (ad 0))] dX3_endCredits_3 rfl rfl (by decide) rfl ?_
  refine g_iconst 5 C 0 dX3_endCredits_4 rfl (by decide) ?_
  refine g_istore_n 6 C [(3, .int 0), (2, .int 0), (1, .int 0), (0, .ref (ad 0))] dX3_endCredits_5 rfl rfl (by decide) rfl ?_
  refine g_lv (lv2 := [(0, .ref (ad 0)), (1, .int 0), (2, .int 0), (3, .int 0)]) [3, 2, 1, 0] rfl ?_
  exact K6  1000 0 0 0 σ hF
theorem knX3_letHail_X7 : Cond.initialized RX7 ∈ wsX3_letHail := by decide +kernel
theorem ksX3_letHail_X7_isTown : Cond.static yX7_isTown ∈ wsX3_letHail := by decide +kernel
theorem kiX3_letHail_X3 : ∀ w ∈ u_ws RX3 TX3 8, w ∈ wsX3_letHail := by decide +kernel
theorem kfX3_letHail_25 : Cond.fieldLink RX3 25 "WeatherMinistry$Realm" "arrears" "[I" ∈ wsX3_letHail := by decide +kernel
theorem kfX3_letHail_22 : Cond.fieldLink RX3 22 "WeatherMinistry$Realm" "umbrellas" "[I" ∈ wsX3_letHail := by decide +kernel
theorem kmX3_letHail_104 : Cond.methodLink RX3 104 Lib.Math.min.name ∈ wsX3_letHail := by decide +kernel
theorem ksX3_letHail_mmin : Cond.static Lib.Math.min.name ∈ wsX3_letHail := by decide +kernel
theorem knX3_letHail_math : Cond.initialized "java/lang/Math" ∈ wsX3_letHail := by decide +kernel
theorem kcX3_letHail_mmin : Cond.code Lib.Math.min.name Lib.Math.min.code 2 (some .int) ∈ wsX3_letHail := by decide +kernel
theorem kfX3_letHail_15 : Cond.fieldLink RX3 15 "WeatherMinistry$Realm" "sun" "[I" ∈ wsX3_letHail := by decide +kernel
theorem kfX3_letHail_45 : Cond.fieldLink RX3 45 "WeatherMinistry$Realm" "books" "LWeatherMinistry$Books;" ∈ wsX3_letHail := by decide +kernel
theorem kiX3_letHail_X0 : ∀ w ∈ u_ws RX0 TX0 8, w ∈ wsX3_letHail := by decide +kernel
theorem kfX3_letHail_156 : Cond.fieldLink RX3 156 "WeatherMinistry$Books" "broken" "I" ∈ wsX3_letHail := by decide +kernel
theorem kfX3_letHail_90 : Cond.fieldLink RX3 90 "WeatherMinistry$Books" "taken" "I" ∈ wsX3_letHail := by decide +kernel
def f_X3_letHail (x1 : Int32) (σ : sg_S) : Option sg_S := sg_bnd (f_X7_isTown x1) (fun r1 => (if r1 = 0 then some σ else sg_grd (sg_in x1 5) (sg_let ((((σ 4 x1.toNatClampNeg) + 5) - 1) / 5) (fun y4 => sg_let (if σ 3 x1.toNatClampNeg < y4 then σ 3 x1.toNatClampNeg else y4) (fun y5 => sg_let (if σ 1 x1.toNatClampNeg < y4 - y5 then σ 1 x1.toNatClampNeg else y4 - y5) (fun y6 => sg_let (sg_up σ 3 (x1.toNatClampNeg) ((σ 3 x1.toNatClampNeg) - y5)) (fun σ7 => sg_let (sg_up σ7 1 (x1.toNatClampNeg) ((σ7 1 x1.toNatClampNeg) - y6)) (fun σ8 => sg_let (sg_up σ8 4 (x1.toNatClampNeg) ((σ8 4 x1.toNatClampNeg) - 1)) (fun σ9 => sg_let (sg_up σ9 12 4 ((σ9 12 4) + y5)) (fun σ10 => sg_let (sg_up σ10 12 3 ((σ10 12 3) + y6)) (fun σ11 => some σ11)))))))))))
set_option maxHeartbeats 4000000 in
set_option maxRecDepth 100000 in
theorem c_X3_letHail (l : Launch) {D : va_G} {Y : Nat → ClassId} {Z : (Nat → Prop) → State → Heap → Prop} (hZ : sg_Zok Z) {ad : Nat → Nat} {σ : sg_S} {σ' : sg_S} {x1 : Int32} (hF : f_X3_letHail x1 σ = some σ') : sg_MV l yX3_letHail wsX3_letHail 1 21 D Y Z [.ref (ad 0), .int x1] (ww_X3 Y ad σ) (ww_X3 Y ad σ') := by
  intro sz
  refine sg_enter (own := RX3) (maxL := 5) (ret := none) (cc := cX3_letHail) (by decide +kernel) rfl rfl (Nat.le_of_ble_eq_true rfl) hZ ?_
  intro p e s m args below meth c C hr Q hQ hsz
  have hN := hZ.2.2.2.1 _ _ _ C.2.2.2.2.2.2.2.2.1
  refine g_lv (lv2 := [(0, .ref (ad 0)), (1, .int x1)]) [0, 1] rfl ?_
  rw [f_X3_letHail] at hF
  refine g_iload_n 1 C dX3_letHail_0 rfl rfl rfl ?_
  obtain ⟨r1, q2, hF⟩ := sg_bndE hF
  refine g_callNi 4 C (w2 := (ww_X3 Y ad σ)) (As := [.int x1]) (st := []) (n0 := 1) [] [0, 1, 2, 3, 4, 5, 6, 7, 8, 9, 10, 11, 12] [0, 1, 2, 3, 4, 5, 6, 7, 8, 9, 10, 11, 12] (c_X7_isTown l hZ (ad := ad) (σ := σ) q2) gX3_letHail_X7_isTown_n65 hN.2.1 knX3_letHail_X7 ksX3_letHail_X7_isTown ⟨by decide +kernel, by decide +kernel, rfl⟩ rfl ⟨Nat.le_of_ble_eq_true rfl, Nat.le_of_ble_eq_true rfl⟩ ⟨rfl, rfl, rfl, by decide, rfl, rfl⟩ rfl rfl (Nat.le_of_ble_eq_true rfl) ⟨Nat.le_refl _, Nat.le_refl _⟩ dX3_letHail_1 rfl rfl ?_
  refine g_if_ne 7 8 C dX3_letHail_4 (by decide) rfl hF (fun hF => ?_) (fun hF => ?_)
  · refine g_aload_n 9 C dX3_letHail_8 rfl rfl rfl ?_
    refine g_get 12 C (own := RX3) (C1 := RX3) (T := TX3) 0 4 (.ref (ad 4)) kiX3_letHail_X3 kfX3_letHail_25 rfl dX3_letHail_9 rfl rfl rfl (by decide) rfl ?_
    refine g_iload_n 13 C dX3_letHail_12 rfl rfl rfl ?_
    obtain ⟨h3, hF⟩ := sg_grdE hF
    refine g_ialdc 14 C 4 (x1.toNatClampNeg) (σ 4 x1.toNatClampNeg) dX3_letHail_13 rfl rfl rfl h3 rfl ?_
    refine g_iconst 15 C 5 dX3_letHail_14 rfl (by decide) ?_
    refine g_iadd 16 C dX3_letHail_15 rfl ?_
    refine g_iconst 17 C 1 dX3_letHail_16 rfl (by decide) ?_
    refine g_isub 18 C dX3_letHail_17 rfl ?_
    refine g_iconst 19 C 5 dX3_letHail_18 rfl (by decide) ?_
    refine g_idivc 20 C dX3_letHail_19 rfl (by decide) ?_
    obtain ⟨y4, ey4, hF⟩ := sg_letE hF
    refine g_top ey4 ?_
    refine g_istore_n 21 C [(2, .int y4), (0, .ref (ad 0)), (1, .int x1)] dX3_letHail_20 rfl rfl (by decide) rfl ?_
    refine g_iload_n 22 C dX3_letHail_21 rfl rfl rfl ?_
    refine g_aload_n 23 C dX3_letHail_22 rfl rfl rfl ?_
    refine g_get 26 C (own := RX3) (C1 := RX3) (T := TX3) 0 3 (.ref (ad 3)) kiX3_letHail_X3 kfX3_letHail_22 rfl dX3_letHail_23 rfl rfl rfl (by decide) rfl ?_
    refine g_iload_n 27 C dX3_letHail_26 rfl rfl rfl ?_
    refine g_ialdc 28 C 3 (x1.toNatClampNeg) (σ 3 x1.toNatClampNeg) dX3_letHail_27 rfl rfl rfl h3 rfl ?_
    refine g_mmin 31 C kmX3_letHail_104 ksX3_letHail_mmin knX3_letHail_math kcX3_letHail_mmin (Nat.le_of_ble_eq_true rfl) (Nat.le_of_ble_eq_true rfl) (Nat.le_refl _) (Nat.le_refl _) dX3_letHail_28 rfl ?_
    obtain ⟨y5, ey5, hF⟩ := sg_letE hF
    refine g_top ey5 ?_
    refine g_istore_n 32 C [(3, .int y5), (2, .int y4), (0, .ref (ad 0)), (1, .int x1)] dX3_letHail_31 rfl rfl (by decide) rfl ?_
    refine g_iload_n 33 C dX3_letHail_32 rfl rfl rfl ?_
    refine g_iload_n 34 C dX3_letHail_33 rfl rfl rfl ?_
    refine g_isub 35 C dX3_letHail_34 rfl ?_
    refine g_aload_n 36 C dX3_letHail_35 rfl rfl rfl ?_
    refine g_get 39 C (own := RX3) (C1 := RX3) (T := TX3) 0 1 (.ref (ad 1)) kiX3_letHail_X3 kfX3_letHail_15 rfl dX3_letHail_36 rfl rfl rfl (by decide) rfl ?_
    refine g_iload_n 40 C dX3_letHail_39 rfl rfl rfl ?_
    refine g_ialdc 41 C 1 (x1.toNatClampNeg) (σ 1 x1.toNatClampNeg) dX3_letHail_40 rfl rfl rfl h3 rfl ?_
    refine g_mmin 44 C kmX3_letHail_104 ksX3_letHail_mmin knX3_letHail_math kcX3_letHail_mmin (Nat.le_of_ble_eq_true rfl) (Nat.le_of_ble_eq_true rfl) (Nat.le_refl _) (Nat.le_refl _) dX3_letHail_41 rfl ?_
    obtain ⟨y6, ey6, hF⟩ := sg_letE hF
    refine g_top ey6 ?_
    refine g_istore 46 C [(4, .int y6), (3, .int y5), (2, .int y4), (0, .ref (ad 0)), (1, .int x1)] dX3_letHail_44 rfl (by decide) rfl ?_
    refine g_aload_n 47 C dX3_letHail_46 rfl rfl rfl ?_
    refine g_get 50 C (own := RX3) (C1 := RX3) (T := TX3) 0 3 (.ref (ad 3)) kiX3_letHail_X3 kfX3_letHail_22 rfl dX3_letHail_47 rfl rfl rfl (by decide) rfl ?_
    refine g_iload_n 51 C dX3_letHail_50 rfl rfl rfl ?_
    refine g_dup2 52 C dX3_letHail_51 rfl rfl rfl ?_
    refine g_ialdc 53 C 3 (x1.toNatClampNeg) (σ 3 x1.toNatClampNeg) dX3_letHail_52 rfl rfl rfl h3 rfl ?_
    refine g_iload_n 54 C dX3_letHail_53 rfl rfl rfl ?_
    refine g_isub 55 C dX3_letHail_54 rfl ?_
    obtain ⟨σ7, eσ7, hF⟩ := sg_letE hF
    refine g_iast 56 C (w2 := (ww_X3 Y ad σ7)) 3 dX3_letHail_55 rfl rfl h3 (by rw [eσ7]; rfl) ?_
    refine g_aload_n 57 C dX3_letHail_56 rfl rfl rfl ?_
    refine g_get 60 C (own := RX3) (C1 := RX3) (T := TX3) 0 1 (.ref (ad 1)) kiX3_letHail_X3 kfX3_letHail_15 rfl dX3_letHail_57 rfl rfl rfl (by decide) rfl ?_
    refine g_iload_n 61 C dX3_letHail_60 rfl rfl rfl ?_
    refine g_dup2 62 C dX3_letHail_61 rfl rfl rfl ?_
    refine g_ialdc 63 C 1 (x1.toNatClampNeg) (σ7 1 x1.toNatClampNeg) dX3_letHail_62 rfl rfl rfl h3 rfl ?_
    refine g_iload 65 C dX3_letHail_63 rfl rfl ?_
    refine g_isub 66 C dX3_letHail_65 rfl ?_
    obtain ⟨σ8, eσ8, hF⟩ := sg_letE hF
    refine g_iast 67 C (w2 := (ww_X3 Y ad σ8)) 1 dX3_letHail_66 rfl rfl h3 (by rw [eσ8]; rfl) ?_
    refine g_aload_n 68 C dX3_letHail_67 rfl rfl rfl ?_
    refine g_get 71 C (own := RX3) (C1 := RX3) (T := TX3) 0 4 (.ref (ad 4)) kiX3_letHail_X3 kfX3_letHail_25 rfl dX3_letHail_68 rfl rfl rfl (by decide) rfl ?_
    refine g_iload_n 72 C dX3_letHail_71 rfl rfl rfl ?_
    refine g_dup2 73 C dX3_letHail_72 rfl rfl rfl ?_
    refine g_ialdc 74 C 4 (x1.toNatClampNeg) (σ8 4 x1.toNatClampNeg) dX3_letHail_73 rfl rfl rfl h3 rfl ?_
    refine g_iconst 75 C 1 dX3_letHail_74 rfl (by decide) ?_
    refine g_isub 76 C dX3_letHail_75 rfl ?_
    obtain ⟨σ9, eσ9, hF⟩ := sg_letE hF
    refine g_iast 77 C (w2 := (ww_X3 Y ad σ9)) 4 dX3_letHail_76 rfl rfl h3 (by rw [eσ9]; rfl) ?_
    refine g_aload_n 78 C dX3_letHail_77 rfl rfl rfl ?_
    refine g_get 81 C (own := RX3) (C1 := RX3) (T := TX3) 0 7 (.ref (ad 12)) kiX3_letHail_X3 kfX3_letHail_45 rfl dX3_letHail_78 rfl rfl rfl (by decide) rfl ?_
    refine g_dup 82 C dX3_letHail_81 rfl rfl ?_
    refine g_get 85 C (own := RX3) (C1 := RX0) (T := TX0) 12 4 (.int (σ9 12 4)) kiX3_letHail_X0 kfX3_letHail_156 rfl dX3_letHail_82 rfl rfl rfl (by decide) rfl ?_
    refine g_iload_n 86 C dX3_letHail_85 rfl rfl rfl ?_
    refine g_iadd 87 C dX3_letHail_86 rfl ?_
    obtain ⟨σ10, eσ10, hF⟩ := sg_letE hF
    refine g_put 90 C (own := RX3) (C1 := RX0) (T := TX0) (w2 := (ww_X3 Y ad σ10)) 12 4 tyX0 tyX0_ok nmX0 kiX3_letHail_X0 kfX3_letHail_156 rfl rfl (ty := .int) (by decide) rfl rfl (sg_blt rfl) dX3_letHail_87 rfl rfl rfl (by decide) (by rw [eσ10]; rfl) ?_
    refine g_aload_n 91 C dX3_letHail_90 rfl rfl rfl ?_
    refine g_get 94 C (own := RX3) (C1 := RX3) (T := TX3) 0 7 (.ref (ad 12)) kiX3_letHail_X3 kfX3_letHail_45 rfl dX3_letHail_91 rfl rfl rfl (by decide) rfl ?_
    refine g_dup 95 C dX3_letHail_94 rfl rfl ?_
    refine g_get 98 C (own := RX3) (C1 := RX0) (T := TX0) 12 3 (.int (σ10 12 3)) kiX3_letHail_X0 kfX3_letHail_90 rfl dX3_letHail_95 rfl rfl rfl (by decide) rfl ?_
    refine g_iload 100 C dX3_letHail_98 rfl rfl ?_
    refine g_iadd 101 C dX3_letHail_100 rfl ?_
    obtain ⟨σ11, eσ11, hF⟩ := sg_letE hF
    refine g_put 104 C (own := RX3) (C1 := RX0) (T := TX0) (w2 := (ww_X3 Y ad σ11)) 12 3 tyX0 tyX0_ok nmX0 kiX3_letHail_X0 kfX3_letHail_90 rfl rfl (ty := .int) (by decide) rfl rfl (sg_blt rfl) dX3_letHail_101 rfl rfl rfl (by decide) (by rw [eσ11]; rfl) ?_
    have e2 := sg_someE hF
    exact g_vret C hr hQ hsz dX3_letHail_104 (by rw [e2])
  · have e2 := sg_someE hF
    exact g_vret C hr hQ hsz dX3_letHail_7 (by rw [e2])
theorem kiX3_pass_X3 : ∀ w ∈ u_ws RX3 TX3 8, w ∈ wsX3_pass := by decide +kernel
theorem kfX3_pass_9 : Cond.fieldLink RX3 9 "WeatherMinistry$Realm" "month" "I" ∈ wsX3_pass := by decide +kernel
theorem kfX3_pass_15 : Cond.fieldLink RX3 15 "WeatherMinistry$Realm" "sun" "[I" ∈ wsX3_pass := by decide +kernel
theorem kmX3_pass_104 : Cond.methodLink RX3 104 Lib.Math.min.name ∈ wsX3_pass := by decide +kernel
theorem ksX3_pass_mmin : Cond.static Lib.Math.min.name ∈ wsX3_pass := by decide +kernel
theorem knX3_pass_math : Cond.initialized "java/lang/Math" ∈ wsX3_pass := by decide +kernel
theorem kcX3_pass_mmin : Cond.code Lib.Math.min.name Lib.Math.min.code 2 (some .int) ∈ wsX3_pass := by decide +kernel
theorem kfX3_pass_45 : Cond.fieldLink RX3 45 "WeatherMinistry$Realm" "books" "LWeatherMinistry$Books;" ∈ wsX3_pass := by decide +kernel
theorem kiX3_pass_X0 : ∀ w ∈ u_ws RX0 TX0 8, w ∈ wsX3_pass := by decide +kernel
theorem kfX3_pass_77 : Cond.fieldLink RX3 77 "WeatherMinistry$Books" "got" "I" ∈ wsX3_pass := by decide +kernel
theorem kfX3_pass_19 : Cond.fieldLink RX3 19 "WeatherMinistry$Realm" "rain" "[I" ∈ wsX3_pass := by decide +kernel
theorem kmX3_pass_123 : Cond.methodLink RX3 123 Lib.Math.max.name ∈ wsX3_pass := by decide +kernel
theorem ksX3_pass_mmax : Cond.static Lib.Math.max.name ∈ wsX3_pass := by decide +kernel
theorem kcX3_pass_mmax : Cond.code Lib.Math.max.name Lib.Math.max.code 2 (some .int) ∈ wsX3_pass := by decide +kernel
theorem kfX3_pass_25 : Cond.fieldLink RX3 25 "WeatherMinistry$Realm" "arrears" "[I" ∈ wsX3_pass := by decide +kernel
def f_X3_pass_L60 : Nat → Int32 → Int32 → Int32 → sg_S → Option (Int32 × sg_S)
  | 0, _, _, _, _ => none
  | nz + 1, z1, z2, z3, σz => (if z3 < 5 then sg_grd (sg_in z3 5) (sg_let (if 60 - (σz 1 z3.toNatClampNeg) < z2 then 60 - (σz 1 z3.toNatClampNeg) else z2) (fun y10 => sg_let (sg_up σz 1 (z3.toNatClampNeg) ((σz 1 z3.toNatClampNeg) + y10)) (fun σ11 => sg_let (sg_up σ11 12 0 ((σ11 12 0) + y10)) (fun σ12 => sg_let (sg_up σ12 2 (z3.toNatClampNeg) (if 0 < (σ12 2 z3.toNatClampNeg) - 3 then (σ12 2 z3.toNatClampNeg) - 3 else 0)) (fun σ13 => f_X3_pass_L60 nz z1 z2 (z3 + 1) σ13))))) else some (z1, σz))
def f_X3_pass_L17 : Nat → Int32 → Int32 → sg_S → Option (Int32 × sg_S)
  | 0, _, _, _ => none
  | nz + 1, z1, z2, σz => (if z2 < 5 then sg_grd (sg_in z2 5) ((if 0 < σz 4 z2.toNatClampNeg then sg_bnd (f_X3_letHail z2 σz) (fun τ15 => f_X3_pass_L17 nz z1 (z2 + 1) τ15) else f_X3_pass_L17 nz z1 (z2 + 1) σz)) else sg_bnd (f_J9_floorMod_7cf53 (σz 0 0) 12) (fun r5 => sg_grd (sg_in r5 12) (sg_let (sg_sun r5.toNatClampNeg) (fun y8 => f_X3_pass_L60 1000 z1 y8 0 σz))))
def f_X3_pass  (σ : sg_S) : Option (Int32 × sg_S) := sg_let (sg_up σ 0 0 ((σ 0 0) + 1)) (fun σ1 => sg_bnd2 (f_X3_endCredits  σ1) (fun r4 τ2 => f_X3_pass_L17 1000 r4 0 τ2))
set_option maxHeartbeats 4000000 in
set_option maxRecDepth 100000 in
theorem c_X3_pass (l : Launch) {D : va_G} {Y : Nat → ClassId} {Z : (Nat → Prop) → State → Heap → Prop} (hZ : sg_Zok Z) {ad : Nat → Nat} {σ : sg_S} {σ' : sg_S} {r : Int32} (hF : f_X3_pass  σ = some (r, σ')) : sg_MI l yX3_pass wsX3_pass 3 74 D Y Z [.ref (ad 0)] (ww_X3 Y ad σ) r (ww_X3 Y ad σ') := by
  intro sz
  refine sg_enter (own := RX3) (maxL := 5) (ret := (some .int)) (cc := cX3_pass) (by decide +kernel) rfl rfl (Nat.le_of_ble_eq_true rfl) hZ ?_
  intro p e s m args below meth c C hr Q hQ hsz
  have hN := hZ.2.2.2.1 _ _ _ C.2.2.2.2.2.2.2.2.1
  obtain ⟨tS, hS1, hS2⟩ := hZ.2.2.2.2 _ _ _ C.2.2.2.2.2.2.2.2.1
  refine g_lv (lv2 := [(0, .ref (ad 0))]) [0] rfl ?_
  have K60 : ∀ (nz : Nat), ∀ (z1 : Int32) (z2 : Int32) (z3 : Int32) (σz : sg_S), f_X3_pass_L60 nz z1 z2 z3 σz = some (r, σ') → sg_G p l e ({ frames := 3, cells := 0, slots := 0, locals := 74 } : Room) s m args below meth c D (va_A (ww_X3 Y ad σ) s.heap.size) 5 0 0 Q 60 [(0, .ref (ad 0)), (1, .int z1), (2, .int z2), (3, .int z3)] [] (ww_X3 Y ad σz) := by
    intro nz
    induction nz with
    | zero =>
      intro z1 z2 z3 σz hF
      rw [f_X3_pass_L60.eq_1] at hF
      exact nomatch hF
    | succ nz ih =>
      intro z1 z2 z3 σz hF
      rw [f_X3_pass_L60.eq_2] at hF
      refine g_iload_n 61 C dX3_pass_60 rfl rfl rfl ?_
      refine g_iconst 62 C 5 dX3_pass_61 rfl (by decide) ?_
      refine g_icmp_ge 65 129 C dX3_pass_62 (by decide) rfl hF (fun hF => ?_) (fun hF => ?_)
      · refine g_iload_n 130 C dX3_pass_129 rfl rfl rfl ?_
        obtain ⟨e1, e2⟩ := sg_pairE hF
        exact g_iret C hr rfl hQ hsz dX3_pass_130 e1.symm (by rw [e2])
      · refine g_iload_n 66 C dX3_pass_65 rfl rfl rfl ?_
        refine g_bipush 68 C 60 dX3_pass_66 rfl (by decide) ?_
        refine g_aload_n 69 C dX3_pass_68 rfl rfl rfl ?_
        refine g_get 72 C (own := RX3) (C1 := RX3) (T := TX3) 0 1 (.ref (ad 1)) kiX3_pass_X3 kfX3_pass_15 rfl dX3_pass_69 rfl rfl rfl (by decide) rfl ?_
        refine g_iload_n 73 C dX3_pass_72 rfl rfl rfl ?_
        obtain ⟨h9, hF⟩ := sg_grdE hF
        refine g_ialdc 74 C 1 (z3.toNatClampNeg) (σz 1 z3.toNatClampNeg) dX3_pass_73 rfl rfl rfl h9 rfl ?_
        refine g_isub 75 C dX3_pass_74 rfl ?_
        refine g_mmin 78 C kmX3_pass_104 ksX3_pass_mmin knX3_pass_math kcX3_pass_mmin (Nat.le_of_ble_eq_true rfl) (Nat.le_of_ble_eq_true rfl) (Nat.le_refl _) (Nat.le_refl _) dX3_pass_75 rfl ?_
        obtain ⟨y10, ey10, hF⟩ := sg_letE hF
        refine g_top ey10 ?_
        refine g_istore 80 C [(4, .int y10), (0, .ref (ad 0)), (1, .int z1), (2, .int z2), (3, .int z3)] dX3_pass_78 rfl (by decide) rfl ?_
        refine g_aload_n 81 C dX3_pass_80 rfl rfl rfl ?_
        refine g_get 84 C (own := RX3) (C1 := RX3) (T := TX3) 0 1 (.ref (ad 1)) kiX3_pass_X3 kfX3_pass_15 rfl dX3_pass_81 rfl rfl rfl (by decide) rfl ?_
        refine g_iload_n 85 C dX3_pass_84 rfl rfl rfl ?_
        refine g_dup2 86 C dX3_pass_85 rfl rfl rfl ?_
        refine g_ialdc 87 C 1 (z3.toNatClampNeg) (σz 1 z3.toNatClampNeg) dX3_pass_86 rfl rfl rfl h9 rfl ?_
        refine g_iload 89 C dX3_pass_87 rfl rfl ?_
        refine g_iadd 90 C dX3_pass_89 rfl ?_
        obtain ⟨σ11, eσ11, hF⟩ := sg_letE hF
        refine g_iast 91 C (w2 := (ww_X3 Y ad σ11)) 1 dX3_pass_90 rfl rfl h9 (by rw [eσ11]; rfl) ?_
        refine g_aload_n 92 C dX3_pass_91 rfl rfl rfl ?_
        refine g_get 95 C (own := RX3) (C1 := RX3) (T := TX3) 0 7 (.ref (ad 12)) kiX3_pass_X3 kfX3_pass_45 rfl dX3_pass_92 rfl rfl rfl (by decide) rfl ?_
        refine g_dup 96 C dX3_pass_95 rfl rfl ?_
        refine g_get 99 C (own := RX3) (C1 := RX0) (T := TX0) 12 0 (.int (σ11 12 0)) kiX3_pass_X0 kfX3_pass_77 rfl dX3_pass_96 rfl rfl rfl (by decide) rfl ?_
        refine g_iload 101 C dX3_pass_99 rfl rfl ?_
        refine g_iadd 102 C dX3_pass_101 rfl ?_
        obtain ⟨σ12, eσ12, hF⟩ := sg_letE hF
        refine g_put 105 C (own := RX3) (C1 := RX0) (T := TX0) (w2 := (ww_X3 Y ad σ12)) 12 0 tyX0 tyX0_ok nmX0 kiX3_pass_X0 kfX3_pass_77 rfl rfl (ty := .int) (by decide) rfl rfl (sg_blt rfl) dX3_pass_102 rfl rfl rfl (by decide) (by rw [eσ12]; rfl) ?_
        refine g_aload_n 106 C dX3_pass_105 rfl rfl rfl ?_
        refine g_get 109 C (own := RX3) (C1 := RX3) (T := TX3) 0 2 (.ref (ad 2)) kiX3_pass_X3 kfX3_pass_19 rfl dX3_pass_106 rfl rfl rfl (by decide) rfl ?_
        refine g_iload_n 110 C dX3_pass_109 rfl rfl rfl ?_
        refine g_iconst 111 C 0 dX3_pass_110 rfl (by decide) ?_
        refine g_aload_n 112 C dX3_pass_111 rfl rfl rfl ?_
        refine g_get 115 C (own := RX3) (C1 := RX3) (T := TX3) 0 2 (.ref (ad 2)) kiX3_pass_X3 kfX3_pass_19 rfl dX3_pass_112 rfl rfl rfl (by decide) rfl ?_
        refine g_iload_n 116 C dX3_pass_115 rfl rfl rfl ?_
        refine g_ialdc 117 C 2 (z3.toNatClampNeg) (σ12 2 z3.toNatClampNeg) dX3_pass_116 rfl rfl rfl h9 rfl ?_
        refine g_iconst 118 C 3 dX3_pass_117 rfl (by decide) ?_
        refine g_isub 119 C dX3_pass_118 rfl ?_
        refine g_mmax 122 C kmX3_pass_123 ksX3_pass_mmax knX3_pass_math kcX3_pass_mmax (Nat.le_of_ble_eq_true rfl) (Nat.le_of_ble_eq_true rfl) (Nat.le_refl _) (Nat.le_refl _) dX3_pass_119 rfl ?_
        obtain ⟨σ13, eσ13, hF⟩ := sg_letE hF
        refine g_iast 123 C (w2 := (ww_X3 Y ad σ13)) 2 dX3_pass_122 rfl rfl h9 (by rw [eσ13]; rfl) ?_
        refine g_iinc 126 C 4 (z3 + 1) [(3, .int (z3 + 1)), (4, .int y10), (0, .ref (ad 0)), (1, .int z1), (2, .int z2)] dX3_pass_123 rfl rfl rfl (by decide) rfl ?_
        refine g_goto 60 C dX3_pass_126 (by decide) ?_
        refine g_lv (lv2 := [(0, .ref (ad 0)), (1, .int z1), (2, .int z2), (3, .int (z3 + 1))]) [2, 3, 4, 0] rfl ?_
        exact ih z1 z2 (z3 + 1) σ13 hF
  have K17 : ∀ (nz : Nat), ∀ (z1 : Int32) (z2 : Int32) (σz : sg_S), f_X3_pass_L17 nz z1 z2 σz = some (r, σ') → sg_G p l e ({ frames := 3, cells := 0, slots := 0, locals := 74 } : Room) s m args below meth c D (va_A (ww_X3 Y ad σ) s.heap.size) 5 0 0 Q 17 [(0, .ref (ad 0)), (1, .int z1), (2, .int z2)] [] (ww_X3 Y ad σz) := by
    intro nz
    induction nz with
    | zero =>
      intro z1 z2 σz hF
      rw [f_X3_pass_L17.eq_1] at hF
      exact nomatch hF
    | succ nz ih =>
      intro z1 z2 σz hF
      rw [f_X3_pass_L17.eq_2] at hF
      refine g_iload_n 18 C dX3_pass_17 rfl rfl rfl ?_
      refine g_iconst 19 C 5 dX3_pass_18 rfl (by decide) ?_
      refine g_icmp_ge 22 42 C dX3_pass_19 (by decide) rfl hF (fun hF => ?_) (fun hF => ?_)
      · refine g_gets 45 C hS1 hN.2.2.2 rfl dX3_pass_42 rfl ?_
        refine g_aload_n 46 C dX3_pass_45 rfl rfl rfl ?_
        refine g_get 49 C (own := RX3) (C1 := RX3) (T := TX3) 0 0 (.int (σz 0 0)) kiX3_pass_X3 kfX3_pass_9 rfl dX3_pass_46 rfl rfl rfl (by decide) rfl ?_
        refine g_gets 52 C hS1 hN.2.2.2 rfl dX3_pass_49 rfl ?_
        refine g_tlen 53 C 12 hS2 (by decide) dX3_pass_52 rfl ?_
        obtain ⟨r5, q6, hF⟩ := sg_bndE hF
        refine g_callSi 56 C (w2 := (ww_X3 Y ad σz)) (As := [.int (σz 0 0), .int 12]) (st := [.ref tS]) (n0 := 2) [] [0, 1, 2, 3, 4, 5, 6, 7, 8, 9, 10, 11, 12] [0, 1, 2, 3, 4, 5, 6, 7, 8, 9, 10, 11, 12] (c_J9_floorMod_7cf53 l hZ (ad := ad) (σ := σz) q6) gX3_pass_J9_floorMod_7cf53 ⟨by decide +kernel, by decide +kernel, rfl⟩ rfl ⟨Nat.le_of_ble_eq_true rfl, Nat.le_of_ble_eq_true rfl⟩ ⟨rfl, rfl, rfl, by decide, rfl, rfl⟩ rfl rfl (Nat.le_of_ble_eq_true rfl) ⟨Nat.le_refl _, Nat.le_refl _⟩ dX3_pass_53 rfl rfl ?_
        obtain ⟨h7, hF⟩ := sg_grdE hF
        refine g_tald 57 C (.int (sg_sun r5.toNatClampNeg)) hS2 h7 rfl dX3_pass_56 rfl ?_
        obtain ⟨y8, ey8, hF⟩ := sg_letE hF
        refine g_top ey8 ?_
        refine g_istore_n 58 C [(2, .int y8), (0, .ref (ad 0)), (1, .int z1)] dX3_pass_57 rfl rfl (by decide) rfl ?_
        refine g_iconst 59 C 0 dX3_pass_58 rfl (by decide) ?_
        refine g_istore_n 60 C [(3, .int 0), (2, .int y8), (0, .ref (ad 0)), (1, .int z1)] dX3_pass_59 rfl rfl (by decide) rfl ?_
        refine g_lv (lv2 := [(0, .ref (ad 0)), (1, .int z1), (2, .int y8), (3, .int 0)]) [2, 3, 1, 0] rfl ?_
        exact K60  1000 z1 y8 0 σz hF
      · refine g_aload_n 23 C dX3_pass_22 rfl rfl rfl ?_
        refine g_get 26 C (own := RX3) (C1 := RX3) (T := TX3) 0 4 (.ref (ad 4)) kiX3_pass_X3 kfX3_pass_25 rfl dX3_pass_23 rfl rfl rfl (by decide) rfl ?_
        refine g_iload_n 27 C dX3_pass_26 rfl rfl rfl ?_
        obtain ⟨h14, hF⟩ := sg_grdE hF
        refine g_ialdc 28 C 4 (z2.toNatClampNeg) (σz 4 z2.toNatClampNeg) dX3_pass_27 rfl rfl rfl h14 rfl ?_
        refine g_if_le 31 36 C dX3_pass_28 (by decide) rfl hF (fun hF => ?_) (fun hF => ?_)
        · refine g_iinc 39 C 2 (z2 + 1) [(2, .int (z2 + 1)), (0, .ref (ad 0)), (1, .int z1)] dX3_pass_36 rfl rfl rfl (by decide) rfl ?_
          refine g_goto 17 C dX3_pass_39 (by decide) ?_
          refine g_lv (lv2 := [(0, .ref (ad 0)), (1, .int z1), (2, .int (z2 + 1))]) [1, 2, 0] rfl ?_
          exact ih z1 (z2 + 1) σz hF
        · refine g_aload_n 32 C dX3_pass_31 rfl rfl rfl ?_
          refine g_iload_n 33 C dX3_pass_32 rfl rfl rfl ?_
          obtain ⟨τ15, q16, hF⟩ := sg_bndE hF
          refine g_callVv 36 C (w2 := (ww_X3 Y ad τ15)) (As := [.int z2]) (st := []) (n0 := 1) (ci := 5) (q0 := 0) [0, 1, 2, 3, 4, 5, 6, 7, 8, 9, 10, 11, 12] [] [0, 1, 2, 3, 4, 5, 6, 7, 8, 9, 10, 11, 12] (c_X3_letHail l hZ (ad := ad) q16) gX3_pass_X3_letHail ⟨rfl, by decide +kernel, by decide +kernel, rfl⟩ rfl ⟨Nat.le_of_ble_eq_true rfl, Nat.le_of_ble_eq_true rfl⟩ rfl rfl ⟨rfl, rfl, rfl, by decide, rfl, rfl⟩ rfl rfl (Nat.le_of_ble_eq_true rfl) ⟨Nat.le_refl _, Nat.le_refl _⟩ dX3_pass_33 rfl rfl ?_
          refine g_iinc 39 C 2 (z2 + 1) [(2, .int (z2 + 1)), (0, .ref (ad 0)), (1, .int z1)] dX3_pass_36 rfl rfl rfl (by decide) rfl ?_
          refine g_goto 17 C dX3_pass_39 (by decide) ?_
          refine g_lv (lv2 := [(0, .ref (ad 0)), (1, .int z1), (2, .int (z2 + 1))]) [1, 2, 0] rfl ?_
          exact ih z1 (z2 + 1) τ15 hF
  rw [f_X3_pass] at hF
  refine g_aload_n 1 C dX3_pass_0 rfl rfl rfl ?_
  refine g_dup 2 C dX3_pass_1 rfl rfl ?_
  refine g_get 5 C (own := RX3) (C1 := RX3) (T := TX3) 0 0 (.int (σ 0 0)) kiX3_pass_X3 kfX3_pass_9 rfl dX3_pass_2 rfl rfl rfl (by decide) rfl ?_
  refine g_iconst 6 C 1 dX3_pass_5 rfl (by decide) ?_
  refine g_iadd 7 C dX3_pass_6 rfl ?_
  obtain ⟨σ1, eσ1, hF⟩ := sg_letE hF
  refine g_put 10 C (own := RX3) (C1 := RX3) (T := TX3) (w2 := (ww_X3 Y ad σ1)) 0 0 tyX3 tyX3_ok nmX3 kiX3_pass_X3 kfX3_pass_9 rfl rfl (ty := .int) (by decide) rfl rfl (sg_blt rfl) dX3_pass_7 rfl rfl rfl (by decide) (by rw [eσ1]; rfl) ?_
  refine g_aload_n 11 C dX3_pass_10 rfl rfl rfl ?_
  obtain ⟨r4, τ2, q3, hF⟩ := sg_bnd2E hF
  refine g_callVi 14 C (w2 := (ww_X3 Y ad τ2)) (As := []) (st := []) (n0 := 0) (ci := 5) (q0 := 0) [0, 1, 2, 3, 4, 5, 6, 7, 8, 9, 10, 11, 12] [] [0, 1, 2, 3, 4, 5, 6, 7, 8, 9, 10, 11, 12] (c_X3_endCredits l hZ (ad := ad) q3) gX3_pass_X3_endCredits ⟨rfl, by decide +kernel, by decide +kernel, rfl⟩ rfl ⟨Nat.le_of_ble_eq_true rfl, Nat.le_of_ble_eq_true rfl⟩ rfl rfl ⟨rfl, rfl, rfl, by decide, rfl, rfl⟩ rfl rfl (Nat.le_of_ble_eq_true rfl) ⟨Nat.le_refl _, Nat.le_refl _⟩ dX3_pass_11 rfl rfl ?_
  refine g_istore_n 15 C [(1, .int r4), (0, .ref (ad 0))] dX3_pass_14 rfl rfl (by decide) rfl ?_
  refine g_iconst 16 C 0 dX3_pass_15 rfl (by decide) ?_
  refine g_istore_n 17 C [(2, .int 0), (1, .int r4), (0, .ref (ad 0))] dX3_pass_16 rfl rfl (by decide) rfl ?_
  refine g_lv (lv2 := [(0, .ref (ad 0)), (1, .int r4), (2, .int 0)]) [2, 1, 0] rfl ?_
  exact K17  1000 r4 0 τ2 hF
