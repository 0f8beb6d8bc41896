set_option maxHeartbeats 4000000 in
set_option maxRecDepth 100000 in
theorem sg_cutK (Y : Nat → ClassId) (ad : Nat → Nat) (σ τ : sg_S) : ∀ k : Nat, k < 8 → sg_cutP (ww_X2k Y ad σ) (ww_X3c Y (sg_e2 13 (2 + 13 * k) 106 ad) (sg_e2 13 (2 + 13 * k) 106 σ)) (ww_X3c Y (sg_e2 13 (2 + 13 * k) 106 ad) τ) (ww_X2k Y ad (sg_m2 (2 + 13 * k) 13 106 13 σ τ)) := by
  intro k hk
  rcases sg_lt8 hk with rfl | rfl | rfl | rfl | rfl | rfl | rfl | rfl
  · exact sg_cutB (bk_2 Y ad σ) (bk_2 Y ad (sg_m2 2 13 106 13 σ τ)) [0, 1, 2, 3, 4, 5, 6, 7, 8, 9] [1, 9] [0, 2, 3, 4, 5, 6, 7, 8] rfl (by decide) rfl rfl rfl rfl
  · exact sg_cutB (bk_2 Y ad σ) (bk_2 Y ad (sg_m2 15 13 106 13 σ τ)) [0, 1, 2, 3, 4, 5, 6, 7, 8, 9] [2, 9] [0, 1, 3, 4, 5, 6, 7, 8] rfl (by decide) rfl rfl rfl rfl
  · exact sg_cutB (bk_2 Y ad σ) (bk_2 Y ad (sg_m2 28 13 106 13 σ τ)) [0, 1, 2, 3, 4, 5, 6, 7, 8, 9] [3, 9] [0, 1, 2, 4, 5, 6, 7, 8] rfl (by decide) rfl rfl rfl rfl
  · exact sg_cutB (bk_2 Y ad σ) (bk_2 Y ad (sg_m2 41 13 106 13 σ τ)) [0, 1, 2, 3, 4, 5, 6, 7, 8, 9] [4, 9] [0, 1, 2, 3, 5, 6, 7, 8] rfl (by decide) rfl rfl rfl rfl
  · exact sg_cutB (bk_2 Y ad σ) (bk_2 Y ad (sg_m2 54 13 106 13 σ τ)) [0, 1, 2, 3, 4, 5, 6, 7, 8, 9] [5, 9] [0, 1, 2, 3, 4, 6, 7, 8] rfl (by decide) rfl rfl rfl rfl
  · exact sg_cutB (bk_2 Y ad σ) (bk_2 Y ad (sg_m2 67 13 106 13 σ τ)) [0, 1, 2, 3, 4, 5, 6, 7, 8, 9] [6, 9] [0, 1, 2, 3, 4, 5, 7, 8] rfl (by decide) rfl rfl rfl rfl
  · exact sg_cutB (bk_2 Y ad σ) (bk_2 Y ad (sg_m2 80 13 106 13 σ τ)) [0, 1, 2, 3, 4, 5, 6, 7, 8, 9] [7, 9] [0, 1, 2, 3, 4, 5, 6, 8] rfl (by decide) rfl rfl rfl rfl
  · exact sg_cutB (bk_2 Y ad σ) (bk_2 Y ad (sg_m2 93 13 106 13 σ τ)) [0, 1, 2, 3, 4, 5, 6, 7, 8, 9] [8, 9] [0, 1, 2, 3, 4, 5, 6, 7] rfl (by decide) rfl rfl rfl rfl
set_option maxHeartbeats 4000000 in
set_option maxRecDepth 100000 in
theorem sg_cutT (Y : Nat → ClassId) (ad : Nat → Nat) (σ τ : sg_S) : ∀ k : Nat, k < 8 → sg_cutP (ww_X2k Y ad σ) (ww_X3c Y (sg_e2 13 106 (2 + 13 * k) ad) (sg_e2 13 106 (2 + 13 * k) σ)) (ww_X3c Y (sg_e2 13 106 (2 + 13 * k) ad) τ) (ww_X2k Y ad (sg_m2 106 13 (2 + 13 * k) 13 σ τ)) := by
  intro k hk
  rcases sg_lt8 hk with rfl | rfl | rfl | rfl | rfl | rfl | rfl | rfl
  · exact sg_cutB (bk_2 Y ad σ) (bk_2 Y ad (sg_m2 106 13 2 13 σ τ)) [0, 1, 2, 3, 4, 5, 6, 7, 8, 9] [9, 1] [0, 2, 3, 4, 5, 6, 7, 8] rfl (by decide) rfl rfl rfl rfl
  · exact sg_cutB (bk_2 Y ad σ) (bk_2 Y ad (sg_m2 106 13 15 13 σ τ)) [0, 1, 2, 3, 4, 5, 6, 7, 8, 9] [9, 2] [0, 1, 3, 4, 5, 6, 7, 8] rfl (by decide) rfl rfl rfl rfl
  · exact sg_cutB (bk_2 Y ad σ) (bk_2 Y ad (sg_m2 106 13 28 13 σ τ)) [0, 1, 2, 3, 4, 5, 6, 7, 8, 9] [9, 3] [0, 1, 2, 4, 5, 6, 7, 8] rfl (by decide) rfl rfl rfl rfl
  · exact sg_cutB (bk_2 Y ad σ) (bk_2 Y ad (sg_m2 106 13 41 13 σ τ)) [0, 1, 2, 3, 4, 5, 6, 7, 8, 9] [9, 4] [0, 1, 2, 3, 5, 6, 7, 8] rfl (by decide) rfl rfl rfl rfl
  · exact sg_cutB (bk_2 Y ad σ) (bk_2 Y ad (sg_m2 106 13 54 13 σ τ)) [0, 1, 2, 3, 4, 5, 6, 7, 8, 9] [9, 5] [0, 1, 2, 3, 4, 6, 7, 8] rfl (by decide) rfl rfl rfl rfl
  · exact sg_cutB (bk_2 Y ad σ) (bk_2 Y ad (sg_m2 106 13 67 13 σ τ)) [0, 1, 2, 3, 4, 5, 6, 7, 8, 9] [9, 6] [0, 1, 2, 3, 4, 5, 7, 8] rfl (by decide) rfl rfl rfl rfl
  · exact sg_cutB (bk_2 Y ad σ) (bk_2 Y ad (sg_m2 106 13 80 13 σ τ)) [0, 1, 2, 3, 4, 5, 6, 7, 8, 9] [9, 7] [0, 1, 2, 3, 4, 5, 6, 8] rfl (by decide) rfl rfl rfl rfl
  · exact sg_cutB (bk_2 Y ad σ) (bk_2 Y ad (sg_m2 106 13 93 13 σ τ)) [0, 1, 2, 3, 4, 5, 6, 7, 8, 9] [9, 8] [0, 1, 2, 3, 4, 5, 6, 7] rfl (by decide) rfl rfl rfl rfl
theorem kiX2_keep_X2 : ∀ w ∈ u_ws RX2 TX2 3, w ∈ wsX2_keep := by decide +kernel
theorem kfX2_keep_20 : Cond.fieldLink RX2 20 "WeatherMinistry$History" "rows" "[LWeatherMinistry$Realm;" ∈ wsX2_keep := by decide +kernel
theorem kfX2_keep_15 : Cond.fieldLink RX2 15 "WeatherMinistry$History" "slot" "I" ∈ wsX2_keep := by decide +kernel
theorem kfX2_keep_9 : Cond.fieldLink RX2 9 "WeatherMinistry$History" "count" "I" ∈ wsX2_keep := by decide +kernel
theorem kmX2_keep_35 : Cond.methodLink RX2 35 Lib.Math.min.name ∈ wsX2_keep := by decide +kernel
theorem ksX2_keep_mmin : Cond.static Lib.Math.min.name ∈ wsX2_keep := by decide +kernel
theorem knX2_keep_math : Cond.initialized "java/lang/Math" ∈ wsX2_keep := by decide +kernel
theorem kcX2_keep_mmin : Cond.code Lib.Math.min.name Lib.Math.min.code 2 (some .int) ∈ wsX2_keep := by decide +kernel
def f_X2_keep  (σ : sg_S) : Option sg_S := sg_grd (sg_in (σ 0 1) 8) (sg_let ((σ 0 1).toNatClampNeg) (fun k2 => sg_bnd (f_X3_copyFrom  (sg_e2 13 (2 + 13 * k2) 106 σ)) (fun τ3 => sg_let (sg_m2 (2 + 13 * k2) 13 106 13 σ τ3) (fun σ5 => sg_bnd (f_J9_floorMod_7cf53 ((σ5 0 1) + 1) 8) (fun r6 => sg_let (sg_up σ5 0 1 r6) (fun σ8 => sg_let (sg_up σ8 0 0 (if 8 < (σ8 0 0) + 1 then 8 else (σ8 0 0) + 1)) (fun σ9 => some σ9)))))))
set_option maxHeartbeats 4000000 in
set_option maxRecDepth 100000 in
theorem c_X2_keep (l : Launch) {D : va_G} {Y : Nat → ClassId} {Z : (Nat → Prop) → State → Heap → Prop} (hZ : sg_Zok Z) {ad : Nat → Nat} {σ : sg_S} {σ' : sg_S} (hF : f_X2_keep  σ = some σ') : sg_MV l yX2_keep wsX2_keep 3 82 D Y Z [.ref (ad 0), .ref (ad 106)] (ww_X2k Y ad σ) (ww_X2k Y ad σ') := by
  intro sz
  refine sg_enter (own := RX2) (maxL := 2) (ret := none) (cc := cX2_keep) (by decide +kernel) rfl rfl (Nat.le_of_ble_eq_true rfl) hZ ?_
  intro p e s m args below meth c C hr Q hQ hsz
  refine g_lv (lv2 := [(0, .ref (ad 0)), (1, .ref (ad 106))]) [0, 1] rfl ?_
  rw [f_X2_keep] at hF
  refine g_aload_n 1 C dX2_keep_0 rfl rfl rfl ?_
  refine g_get 4 C (own := RX2) (C1 := RX2) (T := TX2) 0 2 (.ref (ad 1)) kiX2_keep_X2 kfX2_keep_20 rfl dX2_keep_1 rfl rfl rfl (by decide) rfl ?_
  refine g_aload_n 5 C dX2_keep_4 rfl rfl rfl ?_
  refine g_get 8 C (own := RX2) (C1 := RX2) (T := TX2) 0 1 (.int (σ 0 1)) kiX2_keep_X2 kfX2_keep_15 rfl dX2_keep_5 rfl rfl rfl (by decide) rfl ?_
  obtain ⟨h1, hF⟩ := sg_grdE hF
  obtain ⟨k2, ek2, hF⟩ := sg_letE hF
  have hk2 : k2 < 8 := by rw [ek2]; exact sg_inN h1
  refine g_aald 9 C (k := k2) 1 (.ref (ad (2 + 13 * k2))) h1 ek2 rfl dX2_keep_8 rfl rfl ?_
  refine g_aload_n 10 C dX2_keep_9 rfl rfl rfl ?_
  obtain ⟨τ3, q4, hF⟩ := sg_bndE hF
  obtain ⟨σ5, eσ5, hF⟩ := sg_letE hF
  refine g_callVvP 13 C (w2 := (ww_X2k Y ad σ5)) (As := [.ref (ad 106)]) (st := []) (n0 := 1) (ci := 5) (q0 := (2 + 13 * k2)) (fs := [.int (σ (2 + 13 * k2) 0), .ref (ad (3 + 13 * k2)), .ref (ad (4 + 13 * k2)), .ref (ad (5 + 13 * k2)), .ref (ad (6 + 13 * k2)), .ref (ad (7 + 13 * k2)), .ref (ad (10 + 13 * k2)), .ref (ad (14 + 13 * k2))]) (c_X3_copyFrom l hZ (ad := (sg_e2 13 (2 + 13 * k2) 106 ad)) q4) gX2_keep_X3_copyFrom ⟨rfl, by decide +kernel, by decide +kernel, rfl⟩ rfl ⟨Nat.le_of_ble_eq_true rfl, Nat.le_of_ble_eq_true rfl⟩ rfl (by rcases sg_lt8 hk2 with rfl | rfl | rfl | rfl | rfl | rfl | rfl | rfl <;> rfl) (by subst eσ5; exact sg_cutK Y ad σ τ3 k2 hk2) rfl (Nat.le_of_ble_eq_true rfl) ⟨Nat.le_refl _, Nat.le_refl _⟩ dX2_keep_10 rfl rfl ?_
  refine g_aload_n 14 C dX2_keep_13 rfl rfl rfl ?_
  refine g_aload_n 15 C dX2_keep_14 rfl rfl rfl ?_
  refine g_get 18 C (own := RX2) (C1 := RX2) (T := TX2) 0 1 (.int (σ5 0 1)) kiX2_keep_X2 kfX2_keep_15 rfl dX2_keep_15 rfl rfl rfl (by decide) rfl ?_
  refine g_iconst 19 C 1 dX2_keep_18 rfl (by decide) ?_
  refine g_iadd 20 C dX2_keep_19 rfl ?_
  refine g_bipush 22 C 8 dX2_keep_20 rfl (by decide) ?_
  obtain ⟨r6, q7, hF⟩ := sg_bndE hF
  refine g_callSi 25 C (w2 := (ww_X2k Y ad σ5)) (As := [.int ((σ5 0 1) + 1), .int 8]) (st := [.ref (ad 0)]) (n0 := 2) [] [0, 1, 2, 3, 4, 5, 6, 7, 8, 9, 10, 11, 12, 13, 14, 15, 16, 17, 18, 19, 20, 21, 22, 23, 24, 25, 26, 27, 28, 29, 30, 31, 32, 33, 34, 35, 36, 37, 38, 39, 40, 41, 42, 43, 44, 45, 46, 47, 48, 49, 50, 51, 52, 53, 54, 55, 56, 57, 58, 59, 60, 61, 62, 63, 64, 65, 66, 67, 68, 69, 70, 71, 72, 73, 74, 75, 76, 77, 78, 79, 80, 81, 82, 83, 84, 85, 86, 87, 88, 89, 90, 91, 92, 93, 94, 95, 96, 97, 98, 99, 100, 101, 102, 103, 104, 105, 106, 107, 108, 109, 110, 111, 112, 113, 114, 115, 116, 117, 118] [0, 1, 2, 3, 4, 5, 6, 7, 8, 9, 10, 11, 12, 13, 14, 15, 16, 17, 18, 19, 20, 21, 22, 23, 24, 25, 26, 27, 28, 29, 30, 31, 32, 33, 34, 35, 36, 37, 38, 39, 40, 41, 42, 43, 44, 45, 46, 47, 48, 49, 50, 51, 52, 53, 54, 55, 56, 57, 58, 59, 60, 61, 62, 63, 64, 65, 66, 67, 68, 69, 70, 71, 72, 73, 74, 75, 76, 77, 78, 79, 80, 81, 82, 83, 84, 85, 86, 87, 88, 89, 90, 91, 92, 93, 94, 95, 96, 97, 98, 99, 100, 101, 102, 103, 104, 105, 106, 107, 108, 109, 110, 111, 112, 113, 114, 115, 116, 117, 118] (c_J9_floorMod_7cf53 l hZ (ad := ad) (σ := σ5) q7) gX2_keep_J9_floorMod_7cf53 ⟨by decide +kernel, by decide +kernel, rfl⟩ rfl ⟨Nat.le_of_ble_eq_true rfl, Nat.le_of_ble_eq_true rfl⟩ ⟨rfl, rfl, rfl, by decide, rfl, rfl⟩ rfl rfl (Nat.le_of_ble_eq_true rfl) ⟨Nat.le_refl _, Nat.le_refl _⟩ dX2_keep_22 rfl rfl ?_
  obtain ⟨σ8, eσ8, hF⟩ := sg_letE hF
  refine g_put 28 C (own := RX2) (C1 := RX2) (T := TX2) (w2 := (ww_X2k Y ad σ8)) 0 1 tyX2 tyX2_ok nmX2 kiX2_keep_X2 kfX2_keep_15 rfl rfl (ty := .int) (by decide) rfl rfl (sg_blt rfl) dX2_keep_25 rfl rfl rfl (by decide) (by rw [eσ8]; rfl) ?_
  refine g_aload_n 29 C dX2_keep_28 rfl rfl rfl ?_
  refine g_aload_n 30 C dX2_keep_29 rfl rfl rfl ?_
  refine g_get 33 C (own := RX2) (C1 := RX2) (T := TX2) 0 0 (.int (σ8 0 0)) kiX2_keep_X2 kfX2_keep_9 rfl dX2_keep_30 rfl rfl rfl (by decide) rfl ?_
  refine g_iconst 34 C 1 dX2_keep_33 rfl (by decide) ?_
  refine g_iadd 35 C dX2_keep_34 rfl ?_
  refine g_bipush 37 C 8 dX2_keep_35 rfl (by decide) ?_
  refine g_mmin 40 C kmX2_keep_35 ksX2_keep_mmin knX2_keep_math kcX2_keep_mmin (Nat.le_of_ble_eq_true rfl) (Nat.le_of_ble_eq_true rfl) (Nat.le_refl _) (Nat.le_refl _) dX2_keep_37 rfl ?_
  obtain ⟨σ9, eσ9, hF⟩ := sg_letE hF
  refine g_put 43 C (own := RX2) (C1 := RX2) (T := TX2) (w2 := (ww_X2k Y ad σ9)) 0 0 tyX2 tyX2_ok nmX2 kiX2_keep_X2 kfX2_keep_9 rfl rfl (ty := .int) (by decide) rfl rfl (sg_blt rfl) dX2_keep_40 rfl rfl rfl (by decide) (by rw [eσ9]; rfl) ?_
  have e2 := sg_someE hF
  exact g_vret C hr hQ hsz dX2_keep_43 (by rw [e2])
theorem kiX2_takeBack_X2 : ∀ w ∈ u_ws RX2 TX2 3, w ∈ wsX2_takeBack := by decide +kernel
theorem kfX2_takeBack_15 : Cond.fieldLink RX2 15 "WeatherMinistry$History" "slot" "I" ∈ wsX2_takeBack := by decide +kernel
theorem kfX2_takeBack_20 : Cond.fieldLink RX2 20 "WeatherMinistry$History" "rows" "[LWeatherMinistry$Realm;" ∈ wsX2_takeBack := by decide +kernel
theorem kfX2_takeBack_9 : Cond.fieldLink RX2 9 "WeatherMinistry$History" "count" "I" ∈ wsX2_takeBack := by decide +kernel
def f_X2_takeBack  (σ : sg_S) : Option sg_S := sg_bnd (f_J9_floorMod_7cf53 ((σ 0 1) - 1) 8) (fun r1 => sg_let (sg_up σ 0 1 r1) (fun σ3 => sg_grd (sg_in (σ3 0 1) 8) (sg_let ((σ3 0 1).toNatClampNeg) (fun k5 => sg_bnd (f_X3_copyFrom  (sg_e2 13 106 (2 + 13 * k5) σ3)) (fun τ6 => sg_let (sg_m2 106 13 (2 + 13 * k5) 13 σ3 τ6) (fun σ8 => sg_let (sg_up σ8 0 0 ((σ8 0 0) - 1)) (fun σ9 => some σ9)))))))
set_option maxHeartbeats 4000000 in
set_option maxRecDepth 100000 in
theorem c_X2_takeBack (l : Launch) {D : va_G} {Y : Nat → ClassId} {Z : (Nat → Prop) → State → Heap → Prop} (hZ : sg_Zok Z) {ad : Nat → Nat} {σ : sg_S} {σ' : sg_S} (hF : f_X2_takeBack  σ = some σ') : sg_MV l yX2_takeBack wsX2_takeBack 3 82 D Y Z [.ref (ad 0), .ref (ad 106)] (ww_X2k Y ad σ) (ww_X2k Y ad σ') := by
  intro sz
  refine sg_enter (own := RX2) (maxL := 2) (ret := none) (cc := cX2_takeBack) (by decide +kernel) rfl rfl (Nat.le_of_ble_eq_true rfl) hZ ?_
  intro p e s m args below meth c C hr Q hQ hsz
  refine g_lv (lv2 := [(0, .ref (ad 0)), (1, .ref (ad 106))]) [0, 1] rfl ?_
  rw [f_X2_takeBack] at hF
  refine g_aload_n 1 C dX2_takeBack_0 rfl rfl rfl ?_
  refine g_aload_n 2 C dX2_takeBack_1 rfl rfl rfl ?_
  refine g_get 5 C (own := RX2) (C1 := RX2) (T := TX2) 0 1 (.int (σ 0 1)) kiX2_takeBack_X2 kfX2_takeBack_15 rfl dX2_takeBack_2 rfl rfl rfl (by decide) rfl ?_
  refine g_iconst 6 C 1 dX2_takeBack_5 rfl (by decide) ?_
  refine g_isub 7 C dX2_takeBack_6 rfl ?_
  refine g_bipush 9 C 8 dX2_takeBack_7 rfl (by decide) ?_
  obtain ⟨r1, q2, hF⟩ := sg_bndE hF
  refine g_callSi 12 C (w2 := (ww_X2k Y ad σ)) (As := [.int ((σ 0 1) - 1), .int 8]) (st := [.ref (ad 0)]) (n0 := 2) [] [0, 1, 2, 3, 4, 5, 6, 7, 8, 9, 10, 11, 12, 13, 14, 15, 16, 17, 18, 19, 20, 21, 22, 23, 24, 25, 26, 27, 28, 29, 30, 31, 32, 33, 34, 35, 36, 37, 38, 39, 40, 41, 42, 43, 44, 45, 46, 47, 48, 49, 50, 51, 52, 53, 54, 55, 56, 57, 58, 59, 60, 61, 62, 63, 64, 65, 66, 67, 68, 69, 70, 71, 72, 73, 74, 75, 76, 77, 78, 79, 80, 81, 82, 83, 84, 85, 86, 87, 88, 89, 90, 91, 92, 93, 94, 95, 96, 97, 98, 99, 100, 101, 102, 103, 104, 105, 106, 107, 108, 109, 110, 111, 112, 113, 114, 115, 116, 117, 118] [0, 1, 2, 3, 4, 5, 6, 7, 8, 9, 10, 11, 12, 13, 14, 15, 16, 17, 18, 19, 20, 21, 22, 23, 24, 25, 26, 27, 28, 29, 30, 31, 32, 33, 34, 35, 36, 37, 38, 39, 40, 41, 42, 43, 44, 45, 46, 47, 48, 49, 50, 51, 52, 53, 54, 55, 56, 57, 58, 59, 60, 61, 62, 63, 64, 65, 66, 67, 68, 69, 70, 71, 72, 73, 74, 75, 76, 77, 78, 79, 80, 81, 82, 83, 84, 85, 86, 87, 88, 89, 90, 91, 92, 93, 94, 95, 96, 97, 98, 99, 100, 101, 102, 103, 104, 105, 106, 107, 108, 109, 110, 111, 112, 113, 114, 115, 116, 117, 118] (c_J9_floorMod_7cf53 l hZ (ad := ad) (σ := σ) q2) gX2_takeBack_J9_floorMod_7cf53 ⟨by decide +kernel, by decide +kernel, rfl⟩ rfl ⟨Nat.le_of_ble_eq_true rfl, Nat.le_of_ble_eq_true rfl⟩ ⟨rfl, rfl, rfl, by decide, rfl, rfl⟩ rfl rfl (Nat.le_of_ble_eq_true rfl) ⟨Nat.le_refl _, Nat.le_refl _⟩ dX2_takeBack_9 rfl rfl ?_
  obtain ⟨σ3, eσ3, hF⟩ := sg_letE hF
  refine g_put 15 C (own := RX2) (C1 := RX2) (T := TX2) (w2 := (ww_X2k Y ad σ3)) 0 1 tyX2 tyX2_ok nmX2 kiX2_takeBack_X2 kfX2_takeBack_15 rfl rfl (ty := .int) (by decide) rfl rfl (sg_blt rfl) dX2_takeBack_12 rfl rfl rfl (by decide) (by rw [eσ3]; rfl) ?_
  refine g_aload_n 16 C dX2_takeBack_15 rfl rfl rfl ?_
  refine g_aload_n 17 C dX2_takeBack_16 rfl rfl rfl ?_
  refine g_get 20 C (own := RX2) (C1 := RX2) (T := TX2) 0 2 (.ref (ad 1)) kiX2_takeBack_X2 kfX2_takeBack_20 rfl dX2_takeBack_17 rfl rfl rfl (by decide) rfl ?_
  refine g_aload_n 21 C dX2_takeBack_20 rfl rfl rfl ?_
  refine g_get 24 C (own := RX2) (C1 := RX2) (T := TX2) 0 1 (.int (σ3 0 1)) kiX2_takeBack_X2 kfX2_takeBack_15 rfl dX2_takeBack_21 rfl rfl rfl (by decide) rfl ?_
  obtain ⟨h4, hF⟩ := sg_grdE hF
  obtain ⟨k5, ek5, hF⟩ := sg_letE hF
  have hk5 : k5 < 8 := by rw [ek5]; exact sg_inN h4
  refine g_aald 25 C (k := k5) 1 (.ref (ad (2 + 13 * k5))) h4 ek5 rfl dX2_takeBack_24 rfl rfl ?_
  obtain ⟨τ6, q7, hF⟩ := sg_bndE hF
  obtain ⟨σ8, eσ8, hF⟩ := sg_letE hF
  refine g_callVvP 28 C (w2 := (ww_X2k Y ad σ8)) (As := [.ref (ad (2 + 13 * k5))]) (st := []) (n0 := 1) (ci := 5) (q0 := 106) (c_X3_copyFrom l hZ (ad := (sg_e2 13 106 (2 + 13 * k5) ad)) q7) gX2_takeBack_X3_copyFrom ⟨rfl, by decide +kernel, by decide +kernel, rfl⟩ rfl ⟨Nat.le_of_ble_eq_true rfl, Nat.le_of_ble_eq_true rfl⟩ rfl rfl (by subst eσ8; exact sg_cutT Y ad σ3 τ6 k5 hk5) rfl (Nat.le_of_ble_eq_true rfl) ⟨Nat.le_refl _, Nat.le_refl _⟩ dX2_takeBack_25 rfl rfl ?_
  refine g_aload_n 29 C dX2_takeBack_28 rfl rfl rfl ?_
  refine g_dup 30 C dX2_takeBack_29 rfl rfl ?_
  refine g_get 33 C (own := RX2) (C1 := RX2) (T := TX2) 0 0 (.int (σ8 0 0)) kiX2_takeBack_X2 kfX2_takeBack_9 rfl dX2_takeBack_30 rfl rfl rfl (by decide) rfl ?_
  refine g_iconst 34 C 1 dX2_takeBack_33 rfl (by decide) ?_
  refine g_isub 35 C dX2_takeBack_34 rfl ?_
  obtain ⟨σ9, eσ9, hF⟩ := sg_letE hF
  refine g_put 38 C (own := RX2) (C1 := RX2) (T := TX2) (w2 := (ww_X2k Y ad σ9)) 0 0 tyX2 tyX2_ok nmX2 kiX2_takeBack_X2 kfX2_takeBack_9 rfl rfl (ty := .int) (by decide) rfl rfl (sg_blt rfl) dX2_takeBack_35 rfl rfl rfl (by decide) (by rw [eσ9]; rfl) ?_
  have e2 := sg_someE hF
  exact g_vret C hr hQ hsz dX2_takeBack_38 (by rw [e2])
