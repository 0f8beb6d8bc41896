theorem kiX7_townOf_X7 : ∀ w ∈ u_ws RX7 TX7 10, w ∈ wsX7_townOf := by decide +kernel
theorem kfX7_townOf_10 : Cond.fieldLink RX7 10 "WeatherMinistry" "now" "LWeatherMinistry$Realm;" ∈ wsX7_townOf := by decide +kernel
theorem kiX7_townOf_X3 : ∀ w ∈ u_ws RX3 TX3 8, w ∈ wsX7_townOf := by decide +kernel
theorem kfX7_townOf_69 : Cond.fieldLink RX7 69 "WeatherMinistry$Realm" "credits" "LWeatherMinistry$Credits;" ∈ wsX7_townOf := by decide +kernel
theorem kfX7_townOf_79 : Cond.fieldLink RX7 79 "WeatherMinistry$Realm" "treaties" "LWeatherMinistry$Treaties;" ∈ wsX7_townOf := by decide +kernel
def f_X7_townOf (x1 : Int32) (x2 : Int32) (σ : sg_S) : Option Int32 := sg_bnd (f_X7_isTown x1) (fun r1 => (if r1 = 0 then some ((-1)) else (if x2 = 4 then sg_bnd (f_X1_countOf x1 (sg_e1 9 σ)) (fun r3 => some r3) else (if x2 = 5 then sg_bnd (f_X6_partnersOf x1 (sg_e1 6 σ)) (fun r6 => some r6) else (if x2 = 6 then sg_bnd (f_X6_ledToFrom x1 (sg_e1 6 σ)) (fun r9 => some r9) else sg_bnd (f_X3_weatherOf x1 x2 (sg_e1 1 σ)) (fun r12 => some r12))))))
set_option maxHeartbeats 4000000 in
set_option maxRecDepth 100000 in
theorem c_X7_townOf (l : Launch) {D : va_G} {Y : Nat → ClassId} {Z : (Nat → Prop) → State → Heap → Prop} (hZ : sg_Zok Z) {ad : Nat → Nat} {σ : sg_S} {x1 x2 : Int32} {r : Int32} (hF : f_X7_townOf x1 x2 σ = some r) : sg_MI l yX7_townOf wsX7_townOf 2 46 D Y Z [.ref (ad 0), .int x1, .int x2] (ww_X7TN Y ad σ) r (ww_X7TN Y ad σ) := by
  intro sz
  refine sg_enter (own := RX7) (maxL := 3) (ret := (some .int)) (cc := cX7_townOf) (by decide +kernel) rfl rfl (Nat.le_of_ble_eq_true rfl) hZ ?_
  intro p e s m args below meth c C hr Q hQ hsz
  refine g_lv (lv2 := [(0, .ref (ad 0)), (1, .int x1), (2, .int x2)]) [0, 1, 2] rfl ?_
  rw [f_X7_townOf] at hF
  refine g_iload_n 1 C dX7_townOf_0 rfl rfl rfl ?_
  obtain ⟨r1, q2, hF⟩ := sg_bndE hF
  refine g_callSi 4 C (w2 := (ww_X7TN Y ad σ)) (As := [.int x1]) (st := []) (n0 := 1) [] [0, 1, 2, 3, 4, 5, 6, 7, 8, 9, 10, 11, 12, 13] [0, 1, 2, 3, 4, 5, 6, 7, 8, 9, 10, 11, 12, 13] (c_X7_isTown l hZ (ad := ad) (σ := σ) q2) gX7_townOf_X7_isTown ⟨by decide +kernel, by decide +kernel, rfl⟩ rfl ⟨Nat.le_of_ble_eq_true rfl, Nat.le_of_ble_eq_true rfl⟩ ⟨rfl, rfl, rfl, by decide, rfl, rfl⟩ rfl rfl (Nat.le_of_ble_eq_true rfl) ⟨Nat.le_refl _, Nat.le_refl _⟩ dX7_townOf_1 rfl rfl ?_
  refine g_if_ne 7 9 C dX7_townOf_4 (by decide) rfl hF (fun hF => ?_) (fun hF => ?_)
  · refine g_iload_n 10 C dX7_townOf_9 rfl rfl rfl ?_
    rcases sg_iteE hF with ⟨c5, hF⟩ | ⟨c5, hF⟩
    · refine g_tsin (off := 26) C 36 4 dX7_townOf_10 c5 (by decide) (by decide) (by decide) (by decide) ?_
      refine g_aload_n 37 C dX7_townOf_36 rfl rfl rfl ?_
      refine g_get 40 C (own := RX7) (C1 := RX7) (T := TX7) 0 0 (.ref (ad 1)) kiX7_townOf_X7 kfX7_townOf_10 rfl dX7_townOf_37 rfl rfl rfl (by decide) rfl ?_
      refine g_get 43 C (own := RX7) (C1 := RX3) (T := TX3) 1 6 (.ref (ad 9)) kiX7_townOf_X3 kfX7_townOf_69 rfl dX7_townOf_40 rfl rfl rfl (by decide) rfl ?_
      refine g_iload_n 44 C dX7_townOf_43 rfl rfl rfl ?_
      obtain ⟨r3, q4, hF⟩ := sg_bndE hF
      refine g_callVi 47 C (w2 := (ww_X7TN Y ad σ)) (As := [.int x1]) (st := []) (n0 := 1) (ci := 3) (q0 := 9) [9, 10, 11, 12] [0, 1, 2, 3, 4, 5, 6, 7, 8, 13] [0, 1, 2, 3, 4, 5, 6, 7, 8, 10, 11, 12, 13, 9] (c_X1_countOf l hZ (ad := (sg_e1 9 ad)) q4) gX7_townOf_X1_countOf ⟨rfl, by decide +kernel, by decide +kernel, rfl⟩ rfl ⟨Nat.le_of_ble_eq_true rfl, Nat.le_of_ble_eq_true rfl⟩ rfl rfl ⟨rfl, rfl, rfl, by decide, rfl, rfl⟩ rfl rfl (Nat.le_of_ble_eq_true rfl) ⟨Nat.le_refl _, Nat.le_refl _⟩ dX7_townOf_44 rfl rfl ?_
      have e1 := sg_someE hF
      exact g_iret C hr rfl hQ hsz dX7_townOf_47 e1.symm rfl
    rcases sg_iteE hF with ⟨c8, hF⟩ | ⟨c8, hF⟩
    · refine g_tsin (off := 38) C 48 5 dX7_townOf_10 c8 (by decide) (by decide) (by decide) (by decide) ?_
      refine g_aload_n 49 C dX7_townOf_48 rfl rfl rfl ?_
      refine g_get 52 C (own := RX7) (C1 := RX7) (T := TX7) 0 0 (.ref (ad 1)) kiX7_townOf_X7 kfX7_townOf_10 rfl dX7_townOf_49 rfl rfl rfl (by decide) rfl ?_
      refine g_get 55 C (own := RX7) (C1 := RX3) (T := TX3) 1 5 (.ref (ad 6)) kiX7_townOf_X3 kfX7_townOf_79 rfl dX7_townOf_52 rfl rfl rfl (by decide) rfl ?_
      refine g_iload_n 56 C dX7_townOf_55 rfl rfl rfl ?_
      obtain ⟨r6, q7, hF⟩ := sg_bndE hF
      refine g_callVi 59 C (w2 := (ww_X7TN Y ad σ)) (As := [.int x1]) (st := []) (n0 := 1) (ci := 8) (q0 := 6) [6, 7, 8] [0, 1, 2, 3, 4, 5, 9, 10, 11, 12, 13] [0, 1, 2, 3, 4, 5, 11, 12, 13, 6, 7, 8, 9, 10] (c_X6_partnersOf l hZ (ad := (sg_e1 6 ad)) q7) gX7_townOf_X6_partnersOf ⟨rfl, by decide +kernel, by decide +kernel, rfl⟩ rfl ⟨Nat.le_of_ble_eq_true rfl, Nat.le_of_ble_eq_true rfl⟩ rfl rfl ⟨rfl, rfl, rfl, by decide, rfl, rfl⟩ rfl rfl (Nat.le_of_ble_eq_true rfl) ⟨Nat.le_refl _, Nat.le_refl _⟩ dX7_townOf_56 rfl rfl ?_
      have e1 := sg_someE hF
      exact g_iret C hr rfl hQ hsz dX7_townOf_59 e1.symm rfl
    rcases sg_iteE hF with ⟨c11, hF⟩ | ⟨c11, hF⟩
    · refine g_tsin (off := 50) C 60 6 dX7_townOf_10 c11 (by decide) (by decide) (by decide) (by decide) ?_
      refine g_aload_n 61 C dX7_townOf_60 rfl rfl rfl ?_
      refine g_get 64 C (own := RX7) (C1 := RX7) (T := TX7) 0 0 (.ref (ad 1)) kiX7_townOf_X7 kfX7_townOf_10 rfl dX7_townOf_61 rfl rfl rfl (by decide) rfl ?_
      refine g_get 67 C (own := RX7) (C1 := RX3) (T := TX3) 1 5 (.ref (ad 6)) kiX7_townOf_X3 kfX7_townOf_79 rfl dX7_townOf_64 rfl rfl rfl (by decide) rfl ?_
      refine g_iload_n 68 C dX7_townOf_67 rfl rfl rfl ?_
      obtain ⟨r9, q10, hF⟩ := sg_bndE hF
      refine g_callVi 71 C (w2 := (ww_X7TN Y ad σ)) (As := [.int x1]) (st := []) (n0 := 1) (ci := 8) (q0 := 6) [6, 7, 8] [0, 1, 2, 3, 4, 5, 9, 10, 11, 12, 13] [0, 1, 2, 3, 4, 5, 11, 12, 13, 6, 7, 8, 9, 10] (c_X6_ledToFrom l hZ (ad := (sg_e1 6 ad)) q10) gX7_townOf_X6_ledToFrom ⟨rfl, by decide +kernel, by decide +kernel, rfl⟩ rfl ⟨Nat.le_of_ble_eq_true rfl, Nat.le_of_ble_eq_true rfl⟩ rfl rfl ⟨rfl, rfl, rfl, by decide, rfl, rfl⟩ rfl rfl (Nat.le_of_ble_eq_true rfl) ⟨Nat.le_refl _, Nat.le_refl _⟩ dX7_townOf_68 rfl rfl ?_
      have e1 := sg_someE hF
      exact g_iret C hr rfl hQ hsz dX7_townOf_71 e1.symm rfl
    have nc5 : Int32.toInt x2 ≠ 4 := sg_neT c5 (by decide)
    have nc8 : Int32.toInt x2 ≠ 5 := sg_neT c8 (by decide)
    have nc11 : Int32.toInt x2 ≠ 6 := sg_neT c11 (by decide)
    refine g_tsout C 72 dX7_townOf_10 (by omega) (by decide) ?_
    refine g_aload_n 73 C dX7_townOf_72 rfl rfl rfl ?_
    refine g_get 76 C (own := RX7) (C1 := RX7) (T := TX7) 0 0 (.ref (ad 1)) kiX7_townOf_X7 kfX7_townOf_10 rfl dX7_townOf_73 rfl rfl rfl (by decide) rfl ?_
    refine g_iload_n 77 C dX7_townOf_76 rfl rfl rfl ?_
    refine g_iload_n 78 C dX7_townOf_77 rfl rfl rfl ?_
    obtain ⟨r12, q13, hF⟩ := sg_bndE hF
    refine g_callVi 81 C (w2 := (ww_X7TN Y ad σ)) (As := [.int x1, .int x2]) (st := []) (n0 := 2) (ci := 5) (q0 := 1) [1, 2, 3, 4, 5, 6, 7, 8, 9, 10, 11, 12, 13] [0] [0, 1, 2, 3, 4, 5, 6, 7, 8, 9, 10, 11, 12, 13] (c_X3_weatherOf l hZ (ad := (sg_e1 1 ad)) q13) gX7_townOf_X3_weatherOf ⟨rfl, by decide +kernel, by decide +kernel, rfl⟩ rfl ⟨Nat.le_of_ble_eq_true rfl, Nat.le_of_ble_eq_true rfl⟩ rfl rfl ⟨rfl, rfl, rfl, by decide, rfl, rfl⟩ rfl rfl (Nat.le_of_ble_eq_true rfl) ⟨Nat.le_refl _, Nat.le_refl _⟩ dX7_townOf_78 rfl rfl ?_
    have e1 := sg_someE hF
    exact g_iret C hr rfl hQ hsz dX7_townOf_81 e1.symm rfl
  · refine g_iconst 8 C (-1) dX7_townOf_7 rfl (by decide) ?_
    have e1 := sg_someE hF
    exact g_iret C hr rfl hQ hsz dX7_townOf_8 e1.symm rfl
theorem kiX7_creditOf_X7 : ∀ w ∈ u_ws RX7 TX7 10, w ∈ wsX7_creditOf := by decide +kernel
theorem kfX7_creditOf_10 : Cond.fieldLink RX7 10 "WeatherMinistry" "now" "LWeatherMinistry$Realm;" ∈ wsX7_creditOf := by decide +kernel
theorem kiX7_creditOf_X3 : ∀ w ∈ u_ws RX3 TX3 8, w ∈ wsX7_creditOf := by decide +kernel
theorem kfX7_creditOf_69 : Cond.fieldLink RX7 69 "WeatherMinistry$Realm" "credits" "LWeatherMinistry$Credits;" ∈ wsX7_creditOf := by decide +kernel
theorem kiX7_creditOf_X1 : ∀ w ∈ u_ws RX1 TX1 4, w ∈ wsX7_creditOf := by decide +kernel
theorem kfX7_creditOf_98 : Cond.fieldLink RX7 98 "WeatherMinistry$Credits" "towns" "[I" ∈ wsX7_creditOf := by decide +kernel
theorem kfX7_creditOf_102 : Cond.fieldLink RX7 102 "WeatherMinistry$Credits" "hours" "[I" ∈ wsX7_creditOf := by decide +kernel
theorem kfX7_creditOf_105 : Cond.fieldLink RX7 105 "WeatherMinistry$Credits" "ends" "[I" ∈ wsX7_creditOf := by decide +kernel
theorem kfX7_creditOf_108 : Cond.fieldLink RX7 108 "WeatherMinistry$Realm" "month" "I" ∈ wsX7_creditOf := by decide +kernel
def f_X7_creditOf (x1 : Int32) (x2 : Int32) (σ : sg_S) : Option Int32 := sg_bnd (f_X1_isThere x1 (sg_e1 9 σ)) (fun r1 => (if r1 = 0 then some ((-1)) else (if x2 = 0 then sg_grd (sg_in x1 8) (some (σ 10 x1.toNatClampNeg)) else (if x2 = 1 then sg_grd (sg_in x1 8) (some (σ 11 x1.toNatClampNeg)) else (if x2 = 2 then sg_grd (sg_in x1 8) (some (σ 12 x1.toNatClampNeg)) else (if x2 = 3 then sg_grd (sg_in x1 8) (some ((σ 12 x1.toNatClampNeg) - (σ 1 0))) else some ((-2))))))))
set_option maxHeartbeats 4000000 in
set_option maxRecDepth 100000 in
theorem c_X7_creditOf (l : Launch) {D : va_G} {Y : Nat → ClassId} {Z : (Nat → Prop) → State → Heap → Prop} (hZ : sg_Zok Z) {ad : Nat → Nat} {σ : sg_S} {x1 x2 : Int32} {r : Int32} (hF : f_X7_creditOf x1 x2 σ = some r) : sg_MI l yX7_creditOf wsX7_creditOf 1 21 D Y Z [.ref (ad 0), .int x1, .int x2] (ww_X7TN Y ad σ) r (ww_X7TN Y ad σ) := by
  intro sz
  refine sg_enter (own := RX7) (maxL := 3) (ret := (some .int)) (cc := cX7_creditOf) (by decide +kernel) rfl rfl (Nat.le_of_ble_eq_true rfl) hZ ?_
  intro p e s m args below meth c C hr Q hQ hsz
  refine g_lv (lv2 := [(0, .ref (ad 0)), (1, .int x1), (2, .int x2)]) [0, 1, 2] rfl ?_
  rw [f_X7_creditOf] at hF
  refine g_aload_n 1 C dX7_creditOf_0 rfl rfl rfl ?_
  refine g_get 4 C (own := RX7) (C1 := RX7) (T := TX7) 0 0 (.ref (ad 1)) kiX7_creditOf_X7 kfX7_creditOf_10 rfl dX7_creditOf_1 rfl rfl rfl (by decide) rfl ?_
  refine g_get 7 C (own := RX7) (C1 := RX3) (T := TX3) 1 6 (.ref (ad 9)) kiX7_creditOf_X3 kfX7_creditOf_69 rfl dX7_creditOf_4 rfl rfl rfl (by decide) rfl ?_
  refine g_iload_n 8 C dX7_creditOf_7 rfl rfl rfl ?_
  obtain ⟨r1, q2, hF⟩ := sg_bndE hF
  refine g_callVi 11 C (w2 := (ww_X7TN Y ad σ)) (As := [.int x1]) (st := []) (n0 := 1) (ci := 3) (q0 := 9) [9, 10, 11, 12] [0, 1, 2, 3, 4, 5, 6, 7, 8, 13] [0, 1, 2, 3, 4, 5, 6, 7, 8, 10, 11, 12, 13, 9] (c_X1_isThere l hZ (ad := (sg_e1 9 ad)) q2) gX7_creditOf_X1_isThere ⟨rfl, by decide +kernel, by decide +kernel, rfl⟩ rfl ⟨Nat.le_of_ble_eq_true rfl, Nat.le_of_ble_eq_true rfl⟩ rfl rfl ⟨rfl, rfl, rfl, by decide, rfl, rfl⟩ rfl rfl (Nat.le_of_ble_eq_true rfl) ⟨Nat.le_refl _, Nat.le_refl _⟩ dX7_creditOf_8 rfl rfl ?_
  refine g_if_ne 14 16 C dX7_creditOf_11 (by decide) rfl hF (fun hF => ?_) (fun hF => ?_)
  · refine g_iload_n 17 C dX7_creditOf_16 rfl rfl rfl ?_
    rcases sg_iteE hF with ⟨c4, hF⟩ | ⟨c4, hF⟩
    · refine g_tsin (off := 31) C 48 0 dX7_creditOf_17 c4 (by decide) (by decide) (by decide) (by decide) ?_
      refine g_aload_n 49 C dX7_creditOf_48 rfl rfl rfl ?_
      refine g_get 52 C (own := RX7) (C1 := RX7) (T := TX7) 0 0 (.ref (ad 1)) kiX7_creditOf_X7 kfX7_creditOf_10 rfl dX7_creditOf_49 rfl rfl rfl (by decide) rfl ?_
      refine g_get 55 C (own := RX7) (C1 := RX3) (T := TX3) 1 6 (.ref (ad 9)) kiX7_creditOf_X3 kfX7_creditOf_69 rfl dX7_creditOf_52 rfl rfl rfl (by decide) rfl ?_
      refine g_get 58 C (own := RX7) (C1 := RX1) (T := TX1) 9 1 (.ref (ad 10)) kiX7_creditOf_X1 kfX7_creditOf_98 rfl dX7_creditOf_55 rfl rfl rfl (by decide) rfl ?_
      refine g_iload_n 59 C dX7_creditOf_58 rfl rfl rfl ?_
      obtain ⟨h3, hF⟩ := sg_grdE hF
      refine g_ialdc 60 C 10 (x1.toNatClampNeg) (σ 10 x1.toNatClampNeg) dX7_creditOf_59 rfl rfl rfl h3 rfl ?_
      have e1 := sg_someE hF
      exact g_iret C hr rfl hQ hsz dX7_creditOf_60 e1.symm rfl
    rcases sg_iteE hF with ⟨c6, hF⟩ | ⟨c6, hF⟩
    · refine g_tsin (off := 44) C 61 1 dX7_creditOf_17 c6 (by decide) (by decide) (by decide) (by decide) ?_
      refine g_aload_n 62 C dX7_creditOf_61 rfl rfl rfl ?_
      refine g_get 65 C (own := RX7) (C1 := RX7) (T := TX7) 0 0 (.ref (ad 1)) kiX7_creditOf_X7 kfX7_creditOf_10 rfl dX7_creditOf_62 rfl rfl rfl (by decide) rfl ?_
      refine g_get 68 C (own := RX7) (C1 := RX3) (T := TX3) 1 6 (.ref (ad 9)) kiX7_creditOf_X3 kfX7_creditOf_69 rfl dX7_creditOf_65 rfl rfl rfl (by decide) rfl ?_
      refine g_get 71 C (own := RX7) (C1 := RX1) (T := TX1) 9 2 (.ref (ad 11)) kiX7_creditOf_X1 kfX7_creditOf_102 rfl dX7_creditOf_68 rfl rfl rfl (by decide) rfl ?_
      refine g_iload_n 72 C dX7_creditOf_71 rfl rfl rfl ?_
      obtain ⟨h5, hF⟩ := sg_grdE hF
      refine g_ialdc 73 C 11 (x1.toNatClampNeg) (σ 11 x1.toNatClampNeg) dX7_creditOf_72 rfl rfl rfl h5 rfl ?_
      have e1 := sg_someE hF
      exact g_iret C hr rfl hQ hsz dX7_creditOf_73 e1.symm rfl
    rcases sg_iteE hF with ⟨c8, hF⟩ | ⟨c8, hF⟩
    · refine g_tsin (off := 57) C 74 2 dX7_creditOf_17 c8 (by decide) (by decide) (by decide) (by decide) ?_
      refine g_aload_n 75 C dX7_creditOf_74 rfl rfl rfl ?_
      refine g_get 78 C (own := RX7) (C1 := RX7) (T := TX7) 0 0 (.ref (ad 1)) kiX7_creditOf_X7 kfX7_creditOf_10 rfl dX7_creditOf_75 rfl rfl rfl (by decide) rfl ?_
      refine g_get 81 C (own := RX7) (C1 := RX3) (T := TX3) 1 6 (.ref (ad 9)) kiX7_creditOf_X3 kfX7_creditOf_69 rfl dX7_creditOf_78 rfl rfl rfl (by decide) rfl ?_
      refine g_get 84 C (own := RX7) (C1 := RX1) (T := TX1) 9 3 (.ref (ad 12)) kiX7_creditOf_X1 kfX7_creditOf_105 rfl dX7_creditOf_81 rfl rfl rfl (by decide) rfl ?_
      refine g_iload_n 85 C dX7_creditOf_84 rfl rfl rfl ?_
      obtain ⟨h7, hF⟩ := sg_grdE hF
      refine g_ialdc 86 C 12 (x1.toNatClampNeg) (σ 12 x1.toNatClampNeg) dX7_creditOf_85 rfl rfl rfl h7 rfl ?_
      have e1 := sg_someE hF
      exact g_iret C hr rfl hQ hsz dX7_creditOf_86 e1.symm rfl
    rcases sg_iteE hF with ⟨c10, hF⟩ | ⟨c10, hF⟩
    · refine g_tsin (off := 70) C 87 3 dX7_creditOf_17 c10 (by decide) (by decide) (by decide) (by decide) ?_
      refine g_aload_n 88 C dX7_creditOf_87 rfl rfl rfl ?_
      refine g_get 91 C (own := RX7) (C1 := RX7) (T := TX7) 0 0 (.ref (ad 1)) kiX7_creditOf_X7 kfX7_creditOf_10 rfl dX7_creditOf_88 rfl rfl rfl (by decide) rfl ?_
      refine g_get 94 C (own := RX7) (C1 := RX3) (T := TX3) 1 6 (.ref (ad 9)) kiX7_creditOf_X3 kfX7_creditOf_69 rfl dX7_creditOf_91 rfl rfl rfl (by decide) rfl ?_
      refine g_get 97 C (own := RX7) (C1 := RX1) (T := TX1) 9 3 (.ref (ad 12)) kiX7_creditOf_X1 kfX7_creditOf_105 rfl dX7_creditOf_94 rfl rfl rfl (by decide) rfl ?_
      refine g_iload_n 98 C dX7_creditOf_97 rfl rfl rfl ?_
      obtain ⟨h9, hF⟩ := sg_grdE hF
      refine g_ialdc 99 C 12 (x1.toNatClampNeg) (σ 12 x1.toNatClampNeg) dX7_creditOf_98 rfl rfl rfl h9 rfl ?_
      refine g_aload_n 100 C dX7_creditOf_99 rfl rfl rfl ?_
      refine g_get 103 C (own := RX7) (C1 := RX7) (T := TX7) 0 0 (.ref (ad 1)) kiX7_creditOf_X7 kfX7_creditOf_10 rfl dX7_creditOf_100 rfl rfl rfl (by decide) rfl ?_
      refine g_get 106 C (own := RX7) (C1 := RX3) (T := TX3) 1 0 (.int (σ 1 0)) kiX7_creditOf_X3 kfX7_creditOf_108 rfl dX7_creditOf_103 rfl rfl rfl (by decide) rfl ?_
      refine g_isub 107 C dX7_creditOf_106 rfl ?_
      have e1 := sg_someE hF
      exact g_iret C hr rfl hQ hsz dX7_creditOf_107 e1.symm rfl
    have nc4 : Int32.toInt x2 ≠ 0 := sg_neT c4 (by decide)
    have nc6 : Int32.toInt x2 ≠ 1 := sg_neT c6 (by decide)
    have nc8 : Int32.toInt x2 ≠ 2 := sg_neT c8 (by decide)
    have nc10 : Int32.toInt x2 ≠ 3 := sg_neT c10 (by decide)
    refine g_tsout C 108 dX7_creditOf_17 (by omega) (by decide) ?_
    refine g_bipush 110 C (-2) dX7_creditOf_108 rfl (by decide) ?_
    have e1 := sg_someE hF
    exact g_iret C hr rfl hQ hsz dX7_creditOf_110 e1.symm rfl
  · refine g_iconst 15 C (-1) dX7_creditOf_14 rfl (by decide) ?_
    have e1 := sg_someE hF
    exact g_iret C hr rfl hQ hsz dX7_creditOf_15 e1.symm rfl
theorem kiX7_owes_X7 : ∀ w ∈ u_ws RX7 TX7 10, w ∈ wsX7_owes := by decide +kernel
theorem kfX7_owes_10 : Cond.fieldLink RX7 10 "WeatherMinistry" "now" "LWeatherMinistry$Realm;" ∈ wsX7_owes := by decide +kernel
theorem kiX7_owes_X3 : ∀ w ∈ u_ws RX3 TX3 8, w ∈ wsX7_owes := by decide +kernel
theorem kfX7_owes_69 : Cond.fieldLink RX7 69 "WeatherMinistry$Realm" "credits" "LWeatherMinistry$Credits;" ∈ wsX7_owes := by decide +kernel
def f_X7_owes (x1 : Int32) (σ : sg_S) : Option Int32 := sg_bnd (f_X7_isTown x1) (fun r1 => (if r1 = 0 then some ((-1)) else sg_bnd (f_X1_owedBy x1 (sg_e1 9 σ)) (fun r3 => some r3)))
set_option maxHeartbeats 4000000 in
set_option maxRecDepth 100000 in
theorem c_X7_owes (l : Launch) {D : va_G} {Y : Nat → ClassId} {Z : (Nat → Prop) → State → Heap → Prop} (hZ : sg_Zok Z) {ad : Nat → Nat} {σ : sg_S} {x1 : Int32} {r : Int32} (hF : f_X7_owes x1 σ = some r) : sg_MI l yX7_owes wsX7_owes 1 23 D Y Z [.ref (ad 0), .int x1] (ww_X7TN Y ad σ) r (ww_X7TN Y ad σ) := by
  intro sz
  refine sg_enter (own := RX7) (maxL := 2) (ret := (some .int)) (cc := cX7_owes) (by decide +kernel) rfl rfl (Nat.le_of_ble_eq_true rfl) hZ ?_
  intro p e s m args below meth c C hr Q hQ hsz
  refine g_lv (lv2 := [(0, .ref (ad 0)), (1, .int x1)]) [0, 1] rfl ?_
  rw [f_X7_owes] at hF
  refine g_iload_n 1 C dX7_owes_0 rfl rfl rfl ?_
  obtain ⟨r1, q2, hF⟩ := sg_bndE hF
  refine g_callSi 4 C (w2 := (ww_X7TN Y ad σ)) (As := [.int x1]) (st := []) (n0 := 1) [] [0, 1, 2, 3, 4, 5, 6, 7, 8, 9, 10, 11, 12, 13] [0, 1, 2, 3, 4, 5, 6, 7, 8, 9, 10, 11, 12, 13] (c_X7_isTown l hZ (ad := ad) (σ := σ) q2) gX7_owes_X7_isTown ⟨by decide +kernel, by decide +kernel, rfl⟩ rfl ⟨Nat.le_of_ble_eq_true rfl, Nat.le_of_ble_eq_true rfl⟩ ⟨rfl, rfl, rfl, by decide, rfl, rfl⟩ rfl rfl (Nat.le_of_ble_eq_true rfl) ⟨Nat.le_refl _, Nat.le_refl _⟩ dX7_owes_1 rfl rfl ?_
  refine g_if_eq 7 21 C dX7_owes_4 (by decide) rfl hF (fun hF => ?_) (fun hF => ?_)
  · refine g_iconst 22 C (-1) dX7_owes_21 rfl (by decide) ?_
    have e1 := sg_someE hF
    exact g_iret C hr rfl hQ hsz dX7_owes_22 e1.symm rfl
  · refine g_aload_n 8 C dX7_owes_7 rfl rfl rfl ?_
    refine g_get 11 C (own := RX7) (C1 := RX7) (T := TX7) 0 0 (.ref (ad 1)) kiX7_owes_X7 kfX7_owes_10 rfl dX7_owes_8 rfl rfl rfl (by decide) rfl ?_
    refine g_get 14 C (own := RX7) (C1 := RX3) (T := TX3) 1 6 (.ref (ad 9)) kiX7_owes_X3 kfX7_owes_69 rfl dX7_owes_11 rfl rfl rfl (by decide) rfl ?_
    refine g_iload_n 15 C dX7_owes_14 rfl rfl rfl ?_
    obtain ⟨r3, q4, hF⟩ := sg_bndE hF
    refine g_callVi 18 C (w2 := (ww_X7TN Y ad σ)) (As := [.int x1]) (st := []) (n0 := 1) (ci := 3) (q0 := 9) [9, 10, 11, 12] [0, 1, 2, 3, 4, 5, 6, 7, 8, 13] [0, 1, 2, 3, 4, 5, 6, 7, 8, 10, 11, 12, 13, 9] (c_X1_owedBy l hZ (ad := (sg_e1 9 ad)) q4) gX7_owes_X1_owedBy ⟨rfl, by decide +kernel, by decide +kernel, rfl⟩ rfl ⟨Nat.le_of_ble_eq_true rfl, Nat.le_of_ble_eq_true rfl⟩ rfl rfl ⟨rfl, rfl, rfl, by decide, rfl, rfl⟩ rfl rfl (Nat.le_of_ble_eq_true rfl) ⟨Nat.le_refl _, Nat.le_refl _⟩ dX7_owes_15 rfl rfl ?_
    refine g_goto 22 C dX7_owes_18 (by decide) ?_
    have e1 := sg_someE hF
    exact g_iret C hr rfl hQ hsz dX7_owes_22 e1.symm rfl
theorem kiX7_owesAgain_X7 : ∀ w ∈ u_ws RX7 TX7 10, w ∈ wsX7_owesAgain := by decide +kernel
theorem kfX7_owesAgain_10 : Cond.fieldLink RX7 10 "WeatherMinistry" "now" "LWeatherMinistry$Realm;" ∈ wsX7_owesAgain := by decide +kernel
def f_X7_owesAgain (x1 : Int32) (σ : sg_S) : Option Int32 := sg_bnd (f_X7_isTown x1) (fun r1 => (if r1 = 0 then some ((-1)) else sg_bnd (f_X3_owedByMonths x1 (sg_e1 1 σ)) (fun r3 => some r3)))
set_option maxHeartbeats 4000000 in
set_option maxRecDepth 100000 in
theorem c_X7_owesAgain (l : Launch) {D : va_G} {Y : Nat → ClassId} {Z : (Nat → Prop) → State → Heap → Prop} (hZ : sg_Zok Z) {ad : Nat → Nat} {σ : sg_S} {x1 : Int32} {r : Int32} (hF : f_X7_owesAgain x1 σ = some r) : sg_MI l yX7_owesAgain wsX7_owesAgain 2 47 D Y Z [.ref (ad 0), .int x1] (ww_X7TN Y ad σ) r (ww_X7TN Y ad σ) := by
  intro sz
  refine sg_enter (own := RX7) (maxL := 2) (ret := (some .int)) (cc := cX7_owesAgain) (by decide +kernel) rfl rfl (Nat.le_of_ble_eq_true rfl) hZ ?_
  intro p e s m args below meth c C hr Q hQ hsz
  refine g_lv (lv2 := [(0, .ref (ad 0)), (1, .int x1)]) [0, 1] rfl ?_
  rw [f_X7_owesAgain] at hF
  refine g_iload_n 1 C dX7_owesAgain_0 rfl rfl rfl ?_
  obtain ⟨r1, q2, hF⟩ := sg_bndE hF
  refine g_callSi 4 C (w2 := (ww_X7TN Y ad σ)) (As := [.int x1]) (st := []) (n0 := 1) [] [0, 1, 2, 3, 4, 5, 6, 7, 8, 9, 10, 11, 12, 13] [0, 1, 2, 3, 4, 5, 6, 7, 8, 9, 10, 11, 12, 13] (c_X7_isTown l hZ (ad := ad) (σ := σ) q2) gX7_owesAgain_X7_isTown ⟨by decide +kernel, by decide +kernel, rfl⟩ rfl ⟨Nat.le_of_ble_eq_true rfl, Nat.le_of_ble_eq_true rfl⟩ ⟨rfl, rfl, rfl, by decide, rfl, rfl⟩ rfl rfl (Nat.le_of_ble_eq_true rfl) ⟨Nat.le_refl _, Nat.le_refl _⟩ dX7_owesAgain_1 rfl rfl ?_
  refine g_if_eq 7 18 C dX7_owesAgain_4 (by decide) rfl hF (fun hF => ?_) (fun hF => ?_)
  · refine g_iconst 19 C (-1) dX7_owesAgain_18 rfl (by decide) ?_
    have e1 := sg_someE hF
    exact g_iret C hr rfl hQ hsz dX7_owesAgain_19 e1.symm rfl
  · refine g_aload_n 8 C dX7_owesAgain_7 rfl rfl rfl ?_
    refine g_get 11 C (own := RX7) (C1 := RX7) (T := TX7) 0 0 (.ref (ad 1)) kiX7_owesAgain_X7 kfX7_owesAgain_10 rfl dX7_owesAgain_8 rfl rfl rfl (by decide) rfl ?_
    refine g_iload_n 12 C dX7_owesAgain_11 rfl rfl rfl ?_
    obtain ⟨r3, q4, hF⟩ := sg_bndE hF
    refine g_callVi 15 C (w2 := (ww_X7TN Y ad σ)) (As := [.int x1]) (st := []) (n0 := 1) (ci := 5) (q0 := 1) [1, 2, 3, 4, 5, 6, 7, 8, 9, 10, 11, 12, 13] [0] [0, 1, 2, 3, 4, 5, 6, 7, 8, 9, 10, 11, 12, 13] (c_X3_owedByMonths l hZ (ad := (sg_e1 1 ad)) q4) gX7_owesAgain_X3_owedByMonths ⟨rfl, by decide +kernel, by decide +kernel, rfl⟩ rfl ⟨Nat.le_of_ble_eq_true rfl, Nat.le_of_ble_eq_true rfl⟩ rfl rfl ⟨rfl, rfl, rfl, by decide, rfl, rfl⟩ rfl rfl (Nat.le_of_ble_eq_true rfl) ⟨Nat.le_refl _, Nat.le_refl _⟩ dX7_owesAgain_12 rfl rfl ?_
    refine g_goto 19 C dX7_owesAgain_15 (by decide) ?_
    have e1 := sg_someE hF
    exact g_iret C hr rfl hQ hsz dX7_owesAgain_19 e1.symm rfl
theorem kiX7_due_X7 : ∀ w ∈ u_ws RX7 TX7 10, w ∈ wsX7_due := by decide +kernel
theorem kfX7_due_10 : Cond.fieldLink RX7 10 "WeatherMinistry" "now" "LWeatherMinistry$Realm;" ∈ wsX7_due := by decide +kernel
theorem kiX7_due_X3 : ∀ w ∈ u_ws RX3 TX3 8, w ∈ wsX7_due := by decide +kernel
theorem kfX7_due_69 : Cond.fieldLink RX7 69 "WeatherMinistry$Realm" "credits" "LWeatherMinistry$Credits;" ∈ wsX7_due := by decide +kernel
theorem kfX7_due_108 : Cond.fieldLink RX7 108 "WeatherMinistry$Realm" "month" "I" ∈ wsX7_due := by decide +kernel
def f_X7_due_L17 (x1 : Int32) (σ : sg_S) : Nat → Int32 → Int32 → Option Int32
  | 0, _, _ => none
  | nz + 1, z2, z3 => (if z3 < 5 then sg_bnd (f_X1_owedIn z3 ((σ 1 0) + x1) (sg_e1 9 σ)) (fun r1 => sg_let (z2 + r1) (fun y3 => f_X7_due_L17 x1 σ nz y3 (z3 + 1))) else some z2)
def f_X7_due (x1 : Int32) (σ : sg_S) : Option Int32 := (if 0 ≤ x1 then (if 6 < x1 then some ((-2)) else f_X7_due_L17 x1 σ 1000 0 0) else some ((-2)))
set_option maxHeartbeats 4000000 in
set_option maxRecDepth 100000 in
theorem c_X7_due (l : Launch) {D : va_G} {Y : Nat → ClassId} {Z : (Nat → Prop) → State → Heap → Prop} (hZ : sg_Zok Z) {ad : Nat → Nat} {σ : sg_S} {x1 : Int32} {r : Int32} (hF : f_X7_due x1 σ = some r) : sg_MI l yX7_due wsX7_due 1 24 D Y Z [.ref (ad 0), .int x1] (ww_X7TN Y ad σ) r (ww_X7TN Y ad σ) := by
  intro sz
  refine sg_enter (own := RX7) (maxL := 4) (ret := (some .int)) (cc := cX7_due) (by decide +kernel) rfl rfl (Nat.le_of_ble_eq_true rfl) hZ ?_
  intro p e s m args below meth c C hr Q hQ hsz
  refine g_lv (lv2 := [(0, .ref (ad 0)), (1, .int x1)]) [0, 1] rfl ?_
  have K17 : ∀ (nz : Nat), ∀ (z2 : Int32) (z3 : Int32), f_X7_due_L17 x1 σ nz z2 z3 = some r → sg_G p l e ({ frames := 1, cells := 0, slots := 0, locals := 24 } : Room) s m args below meth c D (va_A (ww_X7TN Y ad σ) s.heap.size) 4 0 0 Q 17 [(0, .ref (ad 0)), (1, .int x1), (2, .int z2), (3, .int z3)] [] (ww_X7TN Y ad σ) := by
    intro nz
    induction nz with
    | zero =>
      intro z2 z3 hF
      rw [f_X7_due_L17.eq_1] at hF
      exact nomatch hF
    | succ nz ih =>
      intro z2 z3 hF
      rw [f_X7_due_L17.eq_2] at hF
      refine g_iload_n 18 C dX7_due_17 rfl rfl rfl ?_
      refine g_iconst 19 C 5 dX7_due_18 rfl (by decide) ?_
      refine g_icmp_ge 22 51 C dX7_due_19 (by decide) rfl hF (fun hF => ?_) (fun hF => ?_)
      · refine g_iload_n 52 C dX7_due_51 rfl rfl rfl ?_
        have e1 := sg_someE hF
        exact g_iret C hr rfl hQ hsz dX7_due_52 e1.symm rfl
      · refine g_iload_n 23 C dX7_due_22 rfl rfl rfl ?_
        refine g_aload_n 24 C dX7_due_23 rfl rfl rfl ?_
        refine g_get 27 C (own := RX7) (C1 := RX7) (T := TX7) 0 0 (.ref (ad 1)) kiX7_due_X7 kfX7_due_10 rfl dX7_due_24 rfl rfl rfl (by decide) rfl ?_
        refine g_get 30 C (own := RX7) (C1 := RX3) (T := TX3) 1 6 (.ref (ad 9)) kiX7_due_X3 kfX7_due_69 rfl dX7_due_27 rfl rfl rfl (by decide) rfl ?_
        refine g_iload_n 31 C dX7_due_30 rfl rfl rfl ?_
        refine g_aload_n 32 C dX7_due_31 rfl rfl rfl ?_
        refine g_get 35 C (own := RX7) (C1 := RX7) (T := TX7) 0 0 (.ref (ad 1)) kiX7_due_X7 kfX7_due_10 rfl dX7_due_32 rfl rfl rfl (by decide) rfl ?_
        refine g_get 38 C (own := RX7) (C1 := RX3) (T := TX3) 1 0 (.int (σ 1 0)) kiX7_due_X3 kfX7_due_108 rfl dX7_due_35 rfl rfl rfl (by decide) rfl ?_
        refine g_iload_n 39 C dX7_due_38 rfl rfl rfl ?_
        refine g_iadd 40 C dX7_due_39 rfl ?_
        obtain ⟨r1, q2, hF⟩ := sg_bndE hF
        refine g_callVi 43 C (w2 := (ww_X7TN Y ad σ)) (As := [.int z3, .int ((σ 1 0) + x1)]) (st := [.int z2]) (n0 := 2) (ci := 3) (q0 := 9) [9, 10, 11, 12] [0, 1, 2, 3, 4, 5, 6, 7, 8, 13] [0, 1, 2, 3, 4, 5, 6, 7, 8, 10, 11, 12, 13, 9] (c_X1_owedIn l hZ (ad := (sg_e1 9 ad)) q2) gX7_due_X1_owedIn ⟨rfl, by decide +kernel, by decide +kernel, rfl⟩ rfl ⟨Nat.le_of_ble_eq_true rfl, Nat.le_of_ble_eq_true rfl⟩ rfl rfl ⟨rfl, rfl, rfl, by decide, rfl, rfl⟩ rfl rfl (Nat.le_of_ble_eq_true rfl) ⟨Nat.le_refl _, Nat.le_refl _⟩ dX7_due_40 rfl rfl ?_
        refine g_iadd 44 C dX7_due_43 rfl ?_
        obtain ⟨y3, ey3, hF⟩ := sg_letE hF
        refine g_top ey3 ?_
        refine g_istore_n 45 C [(2, .int y3), (0, .ref (ad 0)), (1, .int x1), (3, .int z3)] dX7_due_44 rfl rfl (by decide) rfl ?_
        refine g_iinc 48 C 3 (z3 + 1) [(3, .int (z3 + 1)), (2, .int y3), (0, .ref (ad 0)), (1, .int x1)] dX7_due_45 rfl rfl rfl (by decide) rfl ?_
        refine g_goto 17 C dX7_due_48 (by decide) ?_
        refine g_lv (lv2 := [(0, .ref (ad 0)), (1, .int x1), (2, .int y3), (3, .int (z3 + 1))]) [2, 3, 1, 0] rfl ?_
        exact ih y3 (z3 + 1) hF
  rw [f_X7_due] at hF
  refine g_iload_n 1 C dX7_due_0 rfl rfl rfl ?_
  refine g_if_lt 4 10 C dX7_due_1 (by decide) rfl hF (fun hF => ?_) (fun hF => ?_)
  · refine g_bipush 12 C (-2) dX7_due_10 rfl (by decide) ?_
    have e1 := sg_someE hF
    exact g_iret C hr rfl hQ hsz dX7_due_12 e1.symm rfl
  · refine g_iload_n 5 C dX7_due_4 rfl rfl rfl ?_
    refine g_bipush 7 C 6 dX7_due_5 rfl (by decide) ?_
    refine g_icmp_le 10 13 C dX7_due_7 (by decide) rfl hF (fun hF => ?_) (fun hF => ?_)
    · refine g_iconst 14 C 0 dX7_due_13 rfl (by decide) ?_
      refine g_istore_n 15 C [(2, .int 0), (0, .ref (ad 0)), (1, .int x1)] dX7_due_14 rfl rfl (by decide) rfl ?_
      refine g_iconst 16 C 0 dX7_due_15 rfl (by decide) ?_
      refine g_istore_n 17 C [(3, .int 0), (2, .int 0), (0, .ref (ad 0)), (1, .int x1)] dX7_due_16 rfl rfl (by decide) rfl ?_
      refine g_lv (lv2 := [(0, .ref (ad 0)), (1, .int x1), (2, .int 0), (3, .int 0)]) [2, 3, 1, 0] rfl ?_
      exact K17  1000 0 0 hF
    · refine g_bipush 12 C (-2) dX7_due_10 rfl (by decide) ?_
      have e1 := sg_someE hF
      exact g_iret C hr rfl hQ hsz dX7_due_12 e1.symm rfl
theorem kiX7_far_X7 : ∀ w ∈ u_ws RX7 TX7 10, w ∈ wsX7_far := by decide +kernel
theorem kfX7_far_10 : Cond.fieldLink RX7 10 "WeatherMinistry" "now" "LWeatherMinistry$Realm;" ∈ wsX7_far := by decide +kernel
theorem kiX7_far_X3 : ∀ w ∈ u_ws RX3 TX3 8, w ∈ wsX7_far := by decide +kernel
theorem kfX7_far_79 : Cond.fieldLink RX7 79 "WeatherMinistry$Realm" "treaties" "LWeatherMinistry$Treaties;" ∈ wsX7_far := by decide +kernel
def f_X7_far (x1 : Int32) (x2 : Int32) (σ : sg_S) : Option Int32 := sg_bnd (f_X7_isTown x1) (fun r1 => (if r1 = 0 then some ((-1)) else sg_bnd (f_X7_isTown x2) (fun r3 => (if r3 = 0 then some ((-1)) else sg_bnd (f_X6_stepsBetween x1 x2 (sg_e1 6 σ)) (fun r5 => some r5)))))
set_option maxHeartbeats 4000000 in
set_option maxRecDepth 100000 in
theorem c_X7_far (l : Launch) {D : va_G} {Y : Nat → ClassId} {Z : (Nat → Prop) → State → Heap → Prop} (hZ : sg_Zok Z) {ad : Nat → Nat} {σ : sg_S} {x1 x2 : Int32} {r : Int32} (hF : f_X7_far x1 x2 σ = some r) : sg_MI l yX7_far wsX7_far 2 47 D Y Z [.ref (ad 0), .int x1, .int x2] (ww_X7TN Y ad σ) r (ww_X7TN Y ad σ) := by
  intro sz
  refine sg_enter (own := RX7) (maxL := 3) (ret := (some .int)) (cc := cX7_far) (by decide +kernel) rfl rfl (Nat.le_of_ble_eq_true rfl) hZ ?_
  intro p e s m args below meth c C hr Q hQ hsz
  refine g_lv (lv2 := [(0, .ref (ad 0)), (1, .int x1), (2, .int x2)]) [0, 1, 2] rfl ?_
  rw [f_X7_far] at hF
  refine g_iload_n 1 C dX7_far_0 rfl rfl rfl ?_
  obtain ⟨r1, q2, hF⟩ := sg_bndE hF
  refine g_callSi 4 C (w2 := (ww_X7TN Y ad σ)) (As := [.int x1]) (st := []) (n0 := 1) [] [0, 1, 2, 3, 4, 5, 6, 7, 8, 9, 10, 11, 12, 13] [0, 1, 2, 3, 4, 5, 6, 7, 8, 9, 10, 11, 12, 13] (c_X7_isTown l hZ (ad := ad) (σ := σ) q2) gX7_far_X7_isTown ⟨by decide +kernel, by decide +kernel, rfl⟩ rfl ⟨Nat.le_of_ble_eq_true rfl, Nat.le_of_ble_eq_true rfl⟩ ⟨rfl, rfl, rfl, by decide, rfl, rfl⟩ rfl rfl (Nat.le_of_ble_eq_true rfl) ⟨Nat.le_refl _, Nat.le_refl _⟩ dX7_far_1 rfl rfl ?_
  refine g_if_eq 7 29 C dX7_far_4 (by decide) rfl hF (fun hF => ?_) (fun hF => ?_)
  · refine g_iconst 30 C (-1) dX7_far_29 rfl (by decide) ?_
    have e1 := sg_someE hF
    exact g_iret C hr rfl hQ hsz dX7_far_30 e1.symm rfl
  · refine g_iload_n 8 C dX7_far_7 rfl rfl rfl ?_
    obtain ⟨r3, q4, hF⟩ := sg_bndE hF
    refine g_callSi 11 C (w2 := (ww_X7TN Y ad σ)) (As := [.int x2]) (st := []) (n0 := 1) [] [0, 1, 2, 3, 4, 5, 6, 7, 8, 9, 10, 11, 12, 13] [0, 1, 2, 3, 4, 5, 6, 7, 8, 9, 10, 11, 12, 13] (c_X7_isTown l hZ (ad := ad) (σ := σ) q4) gX7_far_X7_isTown ⟨by decide +kernel, by decide +kernel, rfl⟩ rfl ⟨Nat.le_of_ble_eq_true rfl, Nat.le_of_ble_eq_true rfl⟩ ⟨rfl, rfl, rfl, by decide, rfl, rfl⟩ rfl rfl (Nat.le_of_ble_eq_true rfl) ⟨Nat.le_refl _, Nat.le_refl _⟩ dX7_far_8 rfl rfl ?_
    refine g_if_eq 14 29 C dX7_far_11 (by decide) rfl hF (fun hF => ?_) (fun hF => ?_)
    · refine g_iconst 30 C (-1) dX7_far_29 rfl (by decide) ?_
      have e1 := sg_someE hF
      exact g_iret C hr rfl hQ hsz dX7_far_30 e1.symm rfl
    · refine g_aload_n 15 C dX7_far_14 rfl rfl rfl ?_
      refine g_get 18 C (own := RX7) (C1 := RX7) (T := TX7) 0 0 (.ref (ad 1)) kiX7_far_X7 kfX7_far_10 rfl dX7_far_15 rfl rfl rfl (by decide) rfl ?_
      refine g_get 21 C (own := RX7) (C1 := RX3) (T := TX3) 1 5 (.ref (ad 6)) kiX7_far_X3 kfX7_far_79 rfl dX7_far_18 rfl rfl rfl (by decide) rfl ?_
      refine g_iload_n 22 C dX7_far_21 rfl rfl rfl ?_
      refine g_iload_n 23 C dX7_far_22 rfl rfl rfl ?_
      obtain ⟨r5, q6, hF⟩ := sg_bndE hF
      refine g_callVi 26 C (w2 := (ww_X7TN Y ad σ)) (As := [.int x1, .int x2]) (st := []) (n0 := 2) (ci := 8) (q0 := 6) [6, 7, 8] [0, 1, 2, 3, 4, 5, 9, 10, 11, 12, 13] [0, 1, 2, 3, 4, 5, 11, 12, 13, 6, 7, 8, 9, 10] (c_X6_stepsBetween l hZ (ad := (sg_e1 6 ad)) q6) gX7_far_X6_stepsBetween ⟨rfl, by decide +kernel, by decide +kernel, rfl⟩ rfl ⟨Nat.le_of_ble_eq_true rfl, Nat.le_of_ble_eq_true rfl⟩ rfl rfl ⟨rfl, rfl, rfl, by decide, rfl, rfl⟩ rfl rfl (Nat.le_of_ble_eq_true rfl) ⟨Nat.le_refl _, Nat.le_refl _⟩ dX7_far_23 rfl rfl ?_
      refine g_goto 30 C dX7_far_26 (by decide) ?_
      have e1 := sg_someE hF
      exact g_iret C hr rfl hQ hsz dX7_far_30 e1.symm rfl
theorem kiX7_drizzle_X7 : ∀ w ∈ u_ws RX7 TX7 10, w ∈ wsX7_drizzle := by decide +kernel
theorem kfX7_drizzle_10 : Cond.fieldLink RX7 10 "WeatherMinistry" "now" "LWeatherMinistry$Realm;" ∈ wsX7_drizzle := by decide +kernel
theorem kiX7_drizzle_X3 : ∀ w ∈ u_ws RX3 TX3 8, w ∈ wsX7_drizzle := by decide +kernel
theorem kfX7_drizzle_79 : Cond.fieldLink RX7 79 "WeatherMinistry$Realm" "treaties" "LWeatherMinistry$Treaties;" ∈ wsX7_drizzle := by decide +kernel
theorem kiX7_drizzle_X6 : ∀ w ∈ u_ws RX6 TX6 2, w ∈ wsX7_drizzle := by decide +kernel
theorem kfX7_drizzle_130 : Cond.fieldLink RX7 130 "WeatherMinistry$Treaties" "drizzled" "[I" ∈ wsX7_drizzle := by decide +kernel
def f_X7_drizzle (x1 : Int32) (x2 : Int32) (x3 : Int32) (σ : sg_S) : Option (Int32 × sg_S) := sg_bnd (f_X7_isTown x1) (fun r1 => (if r1 = 0 then some ((-1), σ) else sg_bnd (f_X7_isTown x3) (fun r3 => (if r3 = 0 then some ((-1), σ) else sg_bnd (f_X7_isHours x2) (fun r5 => (if r5 = 0 then some ((-2), σ) else sg_bnd (f_X6_spread x1 x2 (sg_e1 6 σ)) (fun τ7 => sg_let (sg_m1 6 3 σ τ7) (fun σ9 => sg_grd (sg_in x3 5) (some (σ9 8 x3.toNatClampNeg, σ9))))))))))
set_option maxHeartbeats 4000000 in
set_option maxRecDepth 100000 in
theorem c_X7_drizzle (l : Launch) {D : va_G} {Y : Nat → ClassId} {Z : (Nat → Prop) → State → Heap → Prop} (hZ : sg_Zok Z) {ad : Nat → Nat} {σ : sg_S} {σ' : sg_S} {x1 x2 x3 : Int32} {r : Int32} (hF : f_X7_drizzle x1 x2 x3 σ = some (r, σ')) : sg_MI l yX7_drizzle wsX7_drizzle 1 26 D Y Z [.ref (ad 0), .int x1, .int x2, .int x3] (ww_X7TN Y ad σ) r (ww_X7TN Y ad σ') := by
  intro sz
  refine sg_enter (own := RX7) (maxL := 4) (ret := (some .int)) (cc := cX7_drizzle) (by decide +kernel) rfl rfl (Nat.le_of_ble_eq_true rfl) hZ ?_
  intro p e s m args below meth c C hr Q hQ hsz
  refine g_lv (lv2 := [(0, .ref (ad 0)), (1, .int x1), (2, .int x2), (3, .int x3)]) [0, 1, 2, 3] rfl ?_
  rw [f_X7_drizzle] at hF
  refine g_iload_n 1 C dX7_drizzle_0 rfl rfl rfl ?_
  obtain ⟨r1, q2, hF⟩ := sg_bndE hF
  refine g_callSi 4 C (w2 := (ww_X7TN Y ad σ)) (As := [.int x1]) (st := []) (n0 := 1) [] [0, 1, 2, 3, 4, 5, 6, 7, 8, 9, 10, 11, 12, 13] [0, 1, 2, 3, 4, 5, 6, 7, 8, 9, 10, 11, 12, 13] (c_X7_isTown l hZ (ad := ad) (σ := σ) q2) gX7_drizzle_X7_isTown ⟨by decide +kernel, by decide +kernel, rfl⟩ rfl ⟨Nat.le_of_ble_eq_true rfl, Nat.le_of_ble_eq_true rfl⟩ ⟨rfl, rfl, rfl, by decide, rfl, rfl⟩ rfl rfl (Nat.le_of_ble_eq_true rfl) ⟨Nat.le_refl _, Nat.le_refl _⟩ dX7_drizzle_1 rfl rfl ?_
  refine g_if_eq 7 14 C dX7_drizzle_4 (by decide) rfl hF (fun hF => ?_) (fun hF => ?_)
  · refine g_iconst 15 C (-1) dX7_drizzle_14 rfl (by decide) ?_
    obtain ⟨e1, e2⟩ := sg_pairE hF
    exact g_iret C hr rfl hQ hsz dX7_drizzle_15 e1.symm (by rw [e2])
  · refine g_iload_n 8 C dX7_drizzle_7 rfl rfl rfl ?_
    obtain ⟨r3, q4, hF⟩ := sg_bndE hF
    refine g_callSi 11 C (w2 := (ww_X7TN Y ad σ)) (As := [.int x3]) (st := []) (n0 := 1) [] [0, 1, 2, 3, 4, 5, 6, 7, 8, 9, 10, 11, 12, 13] [0, 1, 2, 3, 4, 5, 6, 7, 8, 9, 10, 11, 12, 13] (c_X7_isTown l hZ (ad := ad) (σ := σ) q4) gX7_drizzle_X7_isTown ⟨by decide +kernel, by decide +kernel, rfl⟩ rfl ⟨Nat.le_of_ble_eq_true rfl, Nat.le_of_ble_eq_true rfl⟩ ⟨rfl, rfl, rfl, by decide, rfl, rfl⟩ rfl rfl (Nat.le_of_ble_eq_true rfl) ⟨Nat.le_refl _, Nat.le_refl _⟩ dX7_drizzle_8 rfl rfl ?_
    refine g_if_ne 14 16 C dX7_drizzle_11 (by decide) rfl hF (fun hF => ?_) (fun hF => ?_)
    · refine g_iload_n 17 C dX7_drizzle_16 rfl rfl rfl ?_
      obtain ⟨r5, q6, hF⟩ := sg_bndE hF
      refine g_callSi 20 C (w2 := (ww_X7TN Y ad σ)) (As := [.int x2]) (st := []) (n0 := 1) [] [0, 1, 2, 3, 4, 5, 6, 7, 8, 9, 10, 11, 12, 13] [0, 1, 2, 3, 4, 5, 6, 7, 8, 9, 10, 11, 12, 13] (c_X7_isHours l hZ (ad := ad) (σ := σ) q6) gX7_drizzle_X7_isHours ⟨by decide +kernel, by decide +kernel, rfl⟩ rfl ⟨Nat.le_of_ble_eq_true rfl, Nat.le_of_ble_eq_true rfl⟩ ⟨rfl, rfl, rfl, by decide, rfl, rfl⟩ rfl rfl (Nat.le_of_ble_eq_true rfl) ⟨Nat.le_refl _, Nat.le_refl _⟩ dX7_drizzle_17 rfl rfl ?_
      refine g_if_ne 23 26 C dX7_drizzle_20 (by decide) rfl hF (fun hF => ?_) (fun hF => ?_)
      · refine g_aload_n 27 C dX7_drizzle_26 rfl rfl rfl ?_
        refine g_get 30 C (own := RX7) (C1 := RX7) (T := TX7) 0 0 (.ref (ad 1)) kiX7_drizzle_X7 kfX7_drizzle_10 rfl dX7_drizzle_27 rfl rfl rfl (by decide) rfl ?_
        refine g_get 33 C (own := RX7) (C1 := RX3) (T := TX3) 1 5 (.ref (ad 6)) kiX7_drizzle_X3 kfX7_drizzle_79 rfl dX7_drizzle_30 rfl rfl rfl (by decide) rfl ?_
        refine g_iload_n 34 C dX7_drizzle_33 rfl rfl rfl ?_
        refine g_iload_n 35 C dX7_drizzle_34 rfl rfl rfl ?_
        obtain ⟨τ7, q8, hF⟩ := sg_bndE hF
        obtain ⟨σ9, eσ9, hF⟩ := sg_letE hF
        refine g_callVv 38 C (w2 := (ww_X7TN Y ad σ9)) (As := [.int x1, .int x2]) (st := []) (n0 := 2) (ci := 8) (q0 := 6) [6, 7, 8] [0, 1, 2, 3, 4, 5, 9, 10, 11, 12, 13] [0, 1, 2, 3, 4, 5, 11, 12, 13, 6, 7, 8, 9, 10] (c_X6_spread l hZ (ad := (sg_e1 6 ad)) q8) gX7_drizzle_X6_spread ⟨rfl, by decide +kernel, by decide +kernel, rfl⟩ rfl ⟨Nat.le_of_ble_eq_true rfl, Nat.le_of_ble_eq_true rfl⟩ rfl rfl (by subst eσ9; exact ⟨rfl, rfl, rfl, by decide, rfl, rfl⟩) rfl rfl (Nat.le_of_ble_eq_true rfl) ⟨Nat.le_refl _, Nat.le_refl _⟩ dX7_drizzle_35 rfl rfl ?_
        refine g_aload_n 39 C dX7_drizzle_38 rfl rfl rfl ?_
        refine g_get 42 C (own := RX7) (C1 := RX7) (T := TX7) 0 0 (.ref (ad 1)) kiX7_drizzle_X7 kfX7_drizzle_10 rfl dX7_drizzle_39 rfl rfl rfl (by decide) rfl ?_
        refine g_get 45 C (own := RX7) (C1 := RX3) (T := TX3) 1 5 (.ref (ad 6)) kiX7_drizzle_X3 kfX7_drizzle_79 rfl dX7_drizzle_42 rfl rfl rfl (by decide) rfl ?_
        refine g_get 48 C (own := RX7) (C1 := RX6) (T := TX6) 6 1 (.ref (ad 8)) kiX7_drizzle_X6 kfX7_drizzle_130 rfl dX7_drizzle_45 rfl rfl rfl (by decide) rfl ?_
        refine g_iload_n 49 C dX7_drizzle_48 rfl rfl rfl ?_
        obtain ⟨h10, hF⟩ := sg_grdE hF
        refine g_ialdc 50 C 8 (x3.toNatClampNeg) (σ9 8 x3.toNatClampNeg) dX7_drizzle_49 rfl rfl rfl h10 rfl ?_
        obtain ⟨e1, e2⟩ := sg_pairE hF
        exact g_iret C hr rfl hQ hsz dX7_drizzle_50 e1.symm (by rw [e2])
      · refine g_bipush 25 C (-2) dX7_drizzle_23 rfl (by decide) ?_
        obtain ⟨e1, e2⟩ := sg_pairE hF
        exact g_iret C hr rfl hQ hsz dX7_drizzle_25 e1.symm (by rw [e2])
    · refine g_iconst 15 C (-1) dX7_drizzle_14 rfl (by decide) ?_
      obtain ⟨e1, e2⟩ := sg_pairE hF
      exact g_iret C hr rfl hQ hsz dX7_drizzle_15 e1.symm (by rw [e2])
theorem kiX7_drizzleAgain_X7 : ∀ w ∈ u_ws RX7 TX7 10, w ∈ wsX7_drizzleAgain := by decide +kernel
theorem kfX7_drizzleAgain_10 : Cond.fieldLink RX7 10 "WeatherMinistry" "now" "LWeatherMinistry$Realm;" ∈ wsX7_drizzleAgain := by decide +kernel
theorem kiX7_drizzleAgain_X3 : ∀ w ∈ u_ws RX3 TX3 8, w ∈ wsX7_drizzleAgain := by decide +kernel
theorem kfX7_drizzleAgain_79 : Cond.fieldLink RX7 79 "WeatherMinistry$Realm" "treaties" "LWeatherMinistry$Treaties;" ∈ wsX7_drizzleAgain := by decide +kernel
def f_X7_drizzleAgain (x1 : Int32) (x2 : Int32) (x3 : Int32) (σ : sg_S) : Option Int32 := sg_bnd (f_X7_isTown x1) (fun r1 => (if r1 = 0 then some ((-1)) else sg_bnd (f_X7_isTown x3) (fun r3 => (if r3 = 0 then some ((-1)) else sg_bnd (f_X7_isHours x2) (fun r5 => (if r5 = 0 then some ((-2)) else sg_bnd (f_X6_halvedBySteps x1 x2 x3 (sg_e1 6 σ)) (fun r7 => some r7)))))))
set_option maxHeartbeats 4000000 in
set_option maxRecDepth 100000 in
theorem c_X7_drizzleAgain (l : Launch) {D : va_G} {Y : Nat → ClassId} {Z : (Nat → Prop) → State → Heap → Prop} (hZ : sg_Zok Z) {ad : Nat → Nat} {σ : sg_S} {x1 x2 x3 : Int32} {r : Int32} (hF : f_X7_drizzleAgain x1 x2 x3 σ = some r) : sg_MI l yX7_drizzleAgain wsX7_drizzleAgain 3 71 D Y Z [.ref (ad 0), .int x1, .int x2, .int x3] (ww_X7TN Y ad σ) r (ww_X7TN Y ad σ) := by
  intro sz
  refine sg_enter (own := RX7) (maxL := 4) (ret := (some .int)) (cc := cX7_drizzleAgain) (by decide +kernel) rfl rfl (Nat.le_of_ble_eq_true rfl) hZ ?_
  intro p e s m args below meth c C hr Q hQ hsz
  refine g_lv (lv2 := [(0, .ref (ad 0)), (1, .int x1), (2, .int x2), (3, .int x3)]) [0, 1, 2, 3] rfl ?_
  rw [f_X7_drizzleAgain] at hF
  refine g_iload_n 1 C dX7_drizzleAgain_0 rfl rfl rfl ?_
  obtain ⟨r1, q2, hF⟩ := sg_bndE hF
  refine g_callSi 4 C (w2 := (ww_X7TN Y ad σ)) (As := [.int x1]) (st := []) (n0 := 1) [] [0, 1, 2, 3, 4, 5, 6, 7, 8, 9, 10, 11, 12, 13] [0, 1, 2, 3, 4, 5, 6, 7, 8, 9, 10, 11, 12, 13] (c_X7_isTown l hZ (ad := ad) (σ := σ) q2) gX7_drizzleAgain_X7_isTown ⟨by decide +kernel, by decide +kernel, rfl⟩ rfl ⟨Nat.le_of_ble_eq_true rfl, Nat.le_of_ble_eq_true rfl⟩ ⟨rfl, rfl, rfl, by decide, rfl, rfl⟩ rfl rfl (Nat.le_of_ble_eq_true rfl) ⟨Nat.le_refl _, Nat.le_refl _⟩ dX7_drizzleAgain_1 rfl rfl ?_
  refine g_if_eq 7 14 C dX7_drizzleAgain_4 (by decide) rfl hF (fun hF => ?_) (fun hF => ?_)
  · refine g_iconst 15 C (-1) dX7_drizzleAgain_14 rfl (by decide) ?_
    have e1 := sg_someE hF
    exact g_iret C hr rfl hQ hsz dX7_drizzleAgain_15 e1.symm rfl
  · refine g_iload_n 8 C dX7_drizzleAgain_7 rfl rfl rfl ?_
    obtain ⟨r3, q4, hF⟩ := sg_bndE hF
    refine g_callSi 11 C (w2 := (ww_X7TN Y ad σ)) (As := [.int x3]) (st := []) (n0 := 1) [] [0, 1, 2, 3, 4, 5, 6, 7, 8, 9, 10, 11, 12, 13] [0, 1, 2, 3, 4, 5, 6, 7, 8, 9, 10, 11, 12, 13] (c_X7_isTown l hZ (ad := ad) (σ := σ) q4) gX7_drizzleAgain_X7_isTown ⟨by decide +kernel, by decide +kernel, rfl⟩ rfl ⟨Nat.le_of_ble_eq_true rfl, Nat.le_of_ble_eq_true rfl⟩ ⟨rfl, rfl, rfl, by decide, rfl, rfl⟩ rfl rfl (Nat.le_of_ble_eq_true rfl) ⟨Nat.le_refl _, Nat.le_refl _⟩ dX7_drizzleAgain_8 rfl rfl ?_
    refine g_if_ne 14 16 C dX7_drizzleAgain_11 (by decide) rfl hF (fun hF => ?_) (fun hF => ?_)
    · refine g_iload_n 17 C dX7_drizzleAgain_16 rfl rfl rfl ?_
      obtain ⟨r5, q6, hF⟩ := sg_bndE hF
      refine g_callSi 20 C (w2 := (ww_X7TN Y ad σ)) (As := [.int x2]) (st := []) (n0 := 1) [] [0, 1, 2, 3, 4, 5, 6, 7, 8, 9, 10, 11, 12, 13] [0, 1, 2, 3, 4, 5, 6, 7, 8, 9, 10, 11, 12, 13] (c_X7_isHours l hZ (ad := ad) (σ := σ) q6) gX7_drizzleAgain_X7_isHours ⟨by decide +kernel, by decide +kernel, rfl⟩ rfl ⟨Nat.le_of_ble_eq_true rfl, Nat.le_of_ble_eq_true rfl⟩ ⟨rfl, rfl, rfl, by decide, rfl, rfl⟩ rfl rfl (Nat.le_of_ble_eq_true rfl) ⟨Nat.le_refl _, Nat.le_refl _⟩ dX7_drizzleAgain_17 rfl rfl ?_
      refine g_if_eq 23 39 C dX7_drizzleAgain_20 (by decide) rfl hF (fun hF => ?_) (fun hF => ?_)
      · refine g_bipush 41 C (-2) dX7_drizzleAgain_39 rfl (by decide) ?_
        have e1 := sg_someE hF
        exact g_iret C hr rfl hQ hsz dX7_drizzleAgain_41 e1.symm rfl
      · refine g_aload_n 24 C dX7_drizzleAgain_23 rfl rfl rfl ?_
        refine g_get 27 C (own := RX7) (C1 := RX7) (T := TX7) 0 0 (.ref (ad 1)) kiX7_drizzleAgain_X7 kfX7_drizzleAgain_10 rfl dX7_drizzleAgain_24 rfl rfl rfl (by decide) rfl ?_
        refine g_get 30 C (own := RX7) (C1 := RX3) (T := TX3) 1 5 (.ref (ad 6)) kiX7_drizzleAgain_X3 kfX7_drizzleAgain_79 rfl dX7_drizzleAgain_27 rfl rfl rfl (by decide) rfl ?_
        refine g_iload_n 31 C dX7_drizzleAgain_30 rfl rfl rfl ?_
        refine g_iload_n 32 C dX7_drizzleAgain_31 rfl rfl rfl ?_
        refine g_iload_n 33 C dX7_drizzleAgain_32 rfl rfl rfl ?_
        obtain ⟨r7, q8, hF⟩ := sg_bndE hF
        refine g_callVi 36 C (w2 := (ww_X7TN Y ad σ)) (As := [.int x1, .int x2, .int x3]) (st := []) (n0 := 3) (ci := 8) (q0 := 6) [6, 7, 8] [0, 1, 2, 3, 4, 5, 9, 10, 11, 12, 13] [0, 1, 2, 3, 4, 5, 11, 12, 13, 6, 7, 8, 9, 10] (c_X6_halvedBySteps l hZ (ad := (sg_e1 6 ad)) q8) gX7_drizzleAgain_X6_halvedBySteps ⟨rfl, by decide +kernel, by decide +kernel, rfl⟩ rfl ⟨Nat.le_of_ble_eq_true rfl, Nat.le_of_ble_eq_true rfl⟩ rfl rfl ⟨rfl, rfl, rfl, by decide, rfl, rfl⟩ rfl rfl (Nat.le_of_ble_eq_true rfl) ⟨Nat.le_refl _, Nat.le_refl _⟩ dX7_drizzleAgain_33 rfl rfl ?_
        refine g_goto 41 C dX7_drizzleAgain_36 (by decide) ?_
        have e1 := sg_someE hF
        exact g_iret C hr rfl hQ hsz dX7_drizzleAgain_41 e1.symm rfl
    · refine g_iconst 15 C (-1) dX7_drizzleAgain_14 rfl (by decide) ?_
      have e1 := sg_someE hF
      exact g_iret C hr rfl hQ hsz dX7_drizzleAgain_15 e1.symm rfl
theorem kiX7_ranked_X7 : ∀ w ∈ u_ws RX7 TX7 10, w ∈ wsX7_ranked := by decide +kernel
theorem kfX7_ranked_10 : Cond.fieldLink RX7 10 "WeatherMinistry" "now" "LWeatherMinistry$Realm;" ∈ wsX7_ranked := by decide +kernel
def f_X7_ranked_L2 (x1 : Int32) (σ : sg_S) : Nat → Int32 → Option Int32
  | 0, _ => none
  | nz + 1, z2 => (if z2 < 5 then sg_bnd (f_X3_rankOf z2 (sg_e1 1 σ)) (fun r1 => (if r1 = x1 then some z2 else f_X7_ranked_L2 x1 σ nz (z2 + 1))) else some ((-1)))
def f_X7_ranked (x1 : Int32) (σ : sg_S) : Option Int32 := f_X7_ranked_L2 x1 σ 1000 0
set_option maxHeartbeats 4000000 in
set_option maxRecDepth 100000 in
theorem c_X7_ranked (l : Launch) {D : va_G} {Y : Nat → ClassId} {Z : (Nat → Prop) → State → Heap → Prop} (hZ : sg_Zok Z) {ad : Nat → Nat} {σ : sg_S} {x1 : Int32} {r : Int32} (hF : f_X7_ranked x1 σ = some r) : sg_MI l yX7_ranked wsX7_ranked 3 65 D Y Z [.ref (ad 0), .int x1] (ww_X7TN Y ad σ) r (ww_X7TN Y ad σ) := by
  intro sz
  refine sg_enter (own := RX7) (maxL := 3) (ret := (some .int)) (cc := cX7_ranked) (by decide +kernel) rfl rfl (Nat.le_of_ble_eq_true rfl) hZ ?_
  intro p e s m args below meth c C hr Q hQ hsz
  refine g_lv (lv2 := [(0, .ref (ad 0)), (1, .int x1)]) [0, 1] rfl ?_
  have K2 : ∀ (nz : Nat), ∀ (z2 : Int32), f_X7_ranked_L2 x1 σ nz z2 = some r → sg_G p l e ({ frames := 3, cells := 0, slots := 0, locals := 65 } : Room) s m args below meth c D (va_A (ww_X7TN Y ad σ) s.heap.size) 3 0 0 Q 2 [(0, .ref (ad 0)), (1, .int x1), (2, .int z2)] [] (ww_X7TN Y ad σ) := by
    intro nz
    induction nz with
    | zero =>
      intro z2 hF
      rw [f_X7_ranked_L2.eq_1] at hF
      exact nomatch hF
    | succ nz ih =>
      intro z2 hF
      rw [f_X7_ranked_L2.eq_2] at hF
      refine g_iload_n 3 C dX7_ranked_2 rfl rfl rfl ?_
      refine g_iconst 4 C 5 dX7_ranked_3 rfl (by decide) ?_
      refine g_icmp_ge 7 27 C dX7_ranked_4 (by decide) rfl hF (fun hF => ?_) (fun hF => ?_)
      · refine g_iconst 28 C (-1) dX7_ranked_27 rfl (by decide) ?_
        have e1 := sg_someE hF
        exact g_iret C hr rfl hQ hsz dX7_ranked_28 e1.symm rfl
      · refine g_aload_n 8 C dX7_ranked_7 rfl rfl rfl ?_
        refine g_get 11 C (own := RX7) (C1 := RX7) (T := TX7) 0 0 (.ref (ad 1)) kiX7_ranked_X7 kfX7_ranked_10 rfl dX7_ranked_8 rfl rfl rfl (by decide) rfl ?_
        refine g_iload_n 12 C dX7_ranked_11 rfl rfl rfl ?_
        obtain ⟨r1, q2, hF⟩ := sg_bndE hF
        refine g_callVi 15 C (w2 := (ww_X7TN Y ad σ)) (As := [.int z2]) (st := []) (n0 := 1) (ci := 5) (q0 := 1) [1, 2, 3, 4, 5, 6, 7, 8, 9, 10, 11, 12, 13] [0] [0, 1, 2, 3, 4, 5, 6, 7, 8, 9, 10, 11, 12, 13] (c_X3_rankOf l hZ (ad := (sg_e1 1 ad)) q2) gX7_ranked_X3_rankOf ⟨rfl, by decide +kernel, by decide +kernel, rfl⟩ rfl ⟨Nat.le_of_ble_eq_true rfl, Nat.le_of_ble_eq_true rfl⟩ rfl rfl ⟨rfl, rfl, rfl, by decide, rfl, rfl⟩ rfl rfl (Nat.le_of_ble_eq_true rfl) ⟨Nat.le_refl _, Nat.le_refl _⟩ dX7_ranked_12 rfl rfl ?_
        refine g_iload_n 16 C dX7_ranked_15 rfl rfl rfl ?_
        refine g_icmp_ne 19 21 C dX7_ranked_16 (by decide) rfl hF (fun hF => ?_) (fun hF => ?_)
        · refine g_iinc 24 C 2 (z2 + 1) [(2, .int (z2 + 1)), (0, .ref (ad 0)), (1, .int x1)] dX7_ranked_21 rfl rfl rfl (by decide) rfl ?_
          refine g_goto 2 C dX7_ranked_24 (by decide) ?_
          refine g_lv (lv2 := [(0, .ref (ad 0)), (1, .int x1), (2, .int (z2 + 1))]) [1, 2, 0] rfl ?_
          exact ih (z2 + 1) hF
        · refine g_iload_n 20 C dX7_ranked_19 rfl rfl rfl ?_
          have e1 := sg_someE hF
          exact g_iret C hr rfl hQ hsz dX7_ranked_20 e1.symm rfl
  rw [f_X7_ranked] at hF
  refine g_iconst 1 C 0 dX7_ranked_0 rfl (by decide) ?_
  refine g_istore_n 2 C [(2, .int 0), (0, .ref (ad 0)), (1, .int x1)] dX7_ranked_1 rfl rfl (by decide) rfl ?_
  refine g_lv (lv2 := [(0, .ref (ad 0)), (1, .int x1), (2, .int 0)]) [1, 2, 0] rfl ?_
  exact K2  1000 0 hF
theorem kiX7_next_X7 : ∀ w ∈ u_ws RX7 TX7 10, w ∈ wsX7_next := by decide +kernel
theorem kfX7_next_10 : Cond.fieldLink RX7 10 "WeatherMinistry" "now" "LWeatherMinistry$Realm;" ∈ wsX7_next := by decide +kernel
theorem kiX7_next_X3 : ∀ w ∈ u_ws RX3 TX3 8, w ∈ wsX7_next := by decide +kernel
theorem kfX7_next_69 : Cond.fieldLink RX7 69 "WeatherMinistry$Realm" "credits" "LWeatherMinistry$Credits;" ∈ wsX7_next := by decide +kernel
theorem kiX7_next_X1 : ∀ w ∈ u_ws RX1 TX1 4, w ∈ wsX7_next := by decide +kernel
theorem kfX7_next_151 : Cond.fieldLink RX7 151 "WeatherMinistry$Credits" "count" "I" ∈ wsX7_next := by decide +kernel
def f_X7_next_L2 (x1 : Int32) (σ : sg_S) : Nat → Int32 → Option Int32
  | 0, _ => none
  | nz + 1, z2 => (if z2 < σ 9 0 then sg_bnd (f_X1_placeOf z2 (sg_e1 9 σ)) (fun r1 => (if r1 = x1 then some z2 else f_X7_next_L2 x1 σ nz (z2 + 1))) else some ((-1)))
def f_X7_next (x1 : Int32) (σ : sg_S) : Option Int32 := f_X7_next_L2 x1 σ 1000 0
set_option maxHeartbeats 4000000 in
set_option maxRecDepth 100000 in
theorem c_X7_next (l : Launch) {D : va_G} {Y : Nat → ClassId} {Z : (Nat → Prop) → State → Heap → Prop} (hZ : sg_Zok Z) {ad : Nat → Nat} {σ : sg_S} {x1 : Int32} {r : Int32} (hF : f_X7_next x1 σ = some r) : sg_MI l yX7_next wsX7_next 3 66 D Y Z [.ref (ad 0), .int x1] (ww_X7TN Y ad σ) r (ww_X7TN Y ad σ) := by
  intro sz
  refine sg_enter (own := RX7) (maxL := 3) (ret := (some .int)) (cc := cX7_next) (by decide +kernel) rfl rfl (Nat.le_of_ble_eq_true rfl) hZ ?_
  intro p e s m args below meth c C hr Q hQ hsz
  refine g_lv (lv2 := [(0, .ref (ad 0)), (1, .int x1)]) [0, 1] rfl ?_
  have K2 : ∀ (nz : Nat), ∀ (z2 : Int32), f_X7_next_L2 x1 σ nz z2 = some r → sg_G p l e ({ frames := 3, cells := 0, slots := 0, locals := 66 } : Room) s m args below meth c D (va_A (ww_X7TN Y ad σ) s.heap.size) 3 0 0 Q 2 [(0, .ref (ad 0)), (1, .int x1), (2, .int z2)] [] (ww_X7TN Y ad σ) := by
    intro nz
    induction nz with
    | zero =>
      intro z2 hF
      rw [f_X7_next_L2.eq_1] at hF
      exact nomatch hF
    | succ nz ih =>
      intro z2 hF
      rw [f_X7_next_L2.eq_2] at hF
      refine g_iload_n 3 C dX7_next_2 rfl rfl rfl ?_
      refine g_aload_n 4 C dX7_next_3 rfl rfl rfl ?_
      refine g_get 7 C (own := RX7) (C1 := RX7) (T := TX7) 0 0 (.ref (ad 1)) kiX7_next_X7 kfX7_next_10 rfl dX7_next_4 rfl rfl rfl (by decide) rfl ?_
      refine g_get 10 C (own := RX7) (C1 := RX3) (T := TX3) 1 6 (.ref (ad 9)) kiX7_next_X3 kfX7_next_69 rfl dX7_next_7 rfl rfl rfl (by decide) rfl ?_
      refine g_get 13 C (own := RX7) (C1 := RX1) (T := TX1) 9 0 (.int (σ 9 0)) kiX7_next_X1 kfX7_next_151 rfl dX7_next_10 rfl rfl rfl (by decide) rfl ?_
      refine g_icmp_ge 16 39 C dX7_next_13 (by decide) rfl hF (fun hF => ?_) (fun hF => ?_)
      · refine g_iconst 40 C (-1) dX7_next_39 rfl (by decide) ?_
        have e1 := sg_someE hF
        exact g_iret C hr rfl hQ hsz dX7_next_40 e1.symm rfl
      · refine g_aload_n 17 C dX7_next_16 rfl rfl rfl ?_
        refine g_get 20 C (own := RX7) (C1 := RX7) (T := TX7) 0 0 (.ref (ad 1)) kiX7_next_X7 kfX7_next_10 rfl dX7_next_17 rfl rfl rfl (by decide) rfl ?_
        refine g_get 23 C (own := RX7) (C1 := RX3) (T := TX3) 1 6 (.ref (ad 9)) kiX7_next_X3 kfX7_next_69 rfl dX7_next_20 rfl rfl rfl (by decide) rfl ?_
        refine g_iload_n 24 C dX7_next_23 rfl rfl rfl ?_
        obtain ⟨r1, q2, hF⟩ := sg_bndE hF
        refine g_callVi 27 C (w2 := (ww_X7TN Y ad σ)) (As := [.int z2]) (st := []) (n0 := 1) (ci := 3) (q0 := 9) [9, 10, 11, 12] [0, 1, 2, 3, 4, 5, 6, 7, 8, 13] [0, 1, 2, 3, 4, 5, 6, 7, 8, 10, 11, 12, 13, 9] (c_X1_placeOf l hZ (ad := (sg_e1 9 ad)) q2) gX7_next_X1_placeOf ⟨rfl, by decide +kernel, by decide +kernel, rfl⟩ rfl ⟨Nat.le_of_ble_eq_true rfl, Nat.le_of_ble_eq_true rfl⟩ rfl rfl ⟨rfl, rfl, rfl, by decide, rfl, rfl⟩ rfl rfl (Nat.le_of_ble_eq_true rfl) ⟨Nat.le_refl _, Nat.le_refl _⟩ dX7_next_24 rfl rfl ?_
        refine g_iload_n 28 C dX7_next_27 rfl rfl rfl ?_
        refine g_icmp_ne 31 33 C dX7_next_28 (by decide) rfl hF (fun hF => ?_) (fun hF => ?_)
        · refine g_iinc 36 C 2 (z2 + 1) [(2, .int (z2 + 1)), (0, .ref (ad 0)), (1, .int x1)] dX7_next_33 rfl rfl rfl (by decide) rfl ?_
          refine g_goto 2 C dX7_next_36 (by decide) ?_
          refine g_lv (lv2 := [(0, .ref (ad 0)), (1, .int x1), (2, .int (z2 + 1))]) [1, 2, 0] rfl ?_
          exact ih (z2 + 1) hF
        · refine g_iload_n 32 C dX7_next_31 rfl rfl rfl ?_
          have e1 := sg_someE hF
          exact g_iret C hr rfl hQ hsz dX7_next_32 e1.symm rfl
  rw [f_X7_next] at hF
  refine g_iconst 1 C 0 dX7_next_0 rfl (by decide) ?_
  refine g_istore_n 2 C [(2, .int 0), (0, .ref (ad 0)), (1, .int x1)] dX7_next_1 rfl rfl (by decide) rfl ?_
  refine g_lv (lv2 := [(0, .ref (ad 0)), (1, .int x1), (2, .int 0)]) [1, 2, 0] rfl ?_
  exact K2  1000 0 hF
theorem kiX7_isOwedAlike_X7 : ∀ w ∈ u_ws RX7 TX7 10, w ∈ wsX7_isOwedAlike := by decide +kernel
theorem kfX7_isOwedAlike_10 : Cond.fieldLink RX7 10 "WeatherMinistry" "now" "LWeatherMinistry$Realm;" ∈ wsX7_isOwedAlike := by decide +kernel
theorem kiX7_isOwedAlike_X3 : ∀ w ∈ u_ws RX3 TX3 8, w ∈ wsX7_isOwedAlike := by decide +kernel
theorem kfX7_isOwedAlike_69 : Cond.fieldLink RX7 69 "WeatherMinistry$Realm" "credits" "LWeatherMinistry$Credits;" ∈ wsX7_isOwedAlike := by decide +kernel
def f_X7_isOwedAlike_L2 (σ : sg_S) : Nat → Int32 → Option Int32
  | 0, _ => none
  | nz + 1, z1 => (if z1 < 5 then sg_bnd (f_X1_owedBy z1 (sg_e1 9 σ)) (fun r1 => sg_bnd (f_X3_owedByMonths z1 (sg_e1 1 σ)) (fun r3 => (if r1 = r3 then f_X7_isOwedAlike_L2 σ nz (z1 + 1) else some 0))) else some 1)
def f_X7_isOwedAlike  (σ : sg_S) : Option Int32 := f_X7_isOwedAlike_L2 σ 1000 0
set_option maxHeartbeats 4000000 in
set_option maxRecDepth 100000 in
theorem c_X7_isOwedAlike (l : Launch) {D : va_G} {Y : Nat → ClassId} {Z : (Nat → Prop) → State → Heap → Prop} (hZ : sg_Zok Z) {ad : Nat → Nat} {σ : sg_S} {r : Int32} (hF : f_X7_isOwedAlike  σ = some r) : sg_MI l yX7_isOwedAlike wsX7_isOwedAlike 2 47 D Y Z [.ref (ad 0)] (ww_X7TN Y ad σ) r (ww_X7TN Y ad σ) := by
  intro sz
  refine sg_enter (own := RX7) (maxL := 2) (ret := (some .boolean)) (cc := cX7_isOwedAlike) (by decide +kernel) rfl rfl (Nat.le_of_ble_eq_true rfl) hZ ?_
  intro p e s m args below meth c C hr Q hQ hsz
  refine g_lv (lv2 := [(0, .ref (ad 0))]) [0] rfl ?_
  have K2 : ∀ (nz : Nat), ∀ (z1 : Int32), f_X7_isOwedAlike_L2 σ nz z1 = some r → sg_G p l e ({ frames := 2, cells := 0, slots := 0, locals := 47 } : Room) s m args below meth c D (va_A (ww_X7TN Y ad σ) s.heap.size) 2 0 0 Q 2 [(0, .ref (ad 0)), (1, .int z1)] [] (ww_X7TN Y ad σ) := by
    intro nz
    induction nz with
    | zero =>
      intro z1 hF
      rw [f_X7_isOwedAlike_L2.eq_1] at hF
      exact nomatch hF
    | succ nz ih =>
      intro z1 hF
      rw [f_X7_isOwedAlike_L2.eq_2] at hF
      refine g_iload_n 3 C dX7_isOwedAlike_2 rfl rfl rfl ?_
      refine g_iconst 4 C 5 dX7_isOwedAlike_3 rfl (by decide) ?_
      refine g_icmp_ge 7 37 C dX7_isOwedAlike_4 (by decide) rfl hF (fun hF => ?_) (fun hF => ?_)
      · refine g_iconst 38 C 1 dX7_isOwedAlike_37 rfl (by decide) ?_
        have e1 := sg_someE hF
        exact g_iret C hr rfl hQ hsz dX7_isOwedAlike_38 e1.symm rfl
      · refine g_aload_n 8 C dX7_isOwedAlike_7 rfl rfl rfl ?_
        refine g_get 11 C (own := RX7) (C1 := RX7) (T := TX7) 0 0 (.ref (ad 1)) kiX7_isOwedAlike_X7 kfX7_isOwedAlike_10 rfl dX7_isOwedAlike_8 rfl rfl rfl (by decide) rfl ?_
        refine g_get 14 C (own := RX7) (C1 := RX3) (T := TX3) 1 6 (.ref (ad 9)) kiX7_isOwedAlike_X3 kfX7_isOwedAlike_69 rfl dX7_isOwedAlike_11 rfl rfl rfl (by decide) rfl ?_
        refine g_iload_n 15 C dX7_isOwedAlike_14 rfl rfl rfl ?_
        obtain ⟨r1, q2, hF⟩ := sg_bndE hF
        refine g_callVi 18 C (w2 := (ww_X7TN Y ad σ)) (As := [.int z1]) (st := []) (n0 := 1) (ci := 3) (q0 := 9) [9, 10, 11, 12] [0, 1, 2, 3, 4, 5, 6, 7, 8, 13] [0, 1, 2, 3, 4, 5, 6, 7, 8, 10, 11, 12, 13, 9] (c_X1_owedBy l hZ (ad := (sg_e1 9 ad)) q2) gX7_isOwedAlike_X1_owedBy ⟨rfl, by decide +kernel, by decide +kernel, rfl⟩ rfl ⟨Nat.le_of_ble_eq_true rfl, Nat.le_of_ble_eq_true rfl⟩ rfl rfl ⟨rfl, rfl, rfl, by decide, rfl, rfl⟩ rfl rfl (Nat.le_of_ble_eq_true rfl) ⟨Nat.le_refl _, Nat.le_refl _⟩ dX7_isOwedAlike_15 rfl rfl ?_
        refine g_aload_n 19 C dX7_isOwedAlike_18 rfl rfl rfl ?_
        refine g_get 22 C (own := RX7) (C1 := RX7) (T := TX7) 0 0 (.ref (ad 1)) kiX7_isOwedAlike_X7 kfX7_isOwedAlike_10 rfl dX7_isOwedAlike_19 rfl rfl rfl (by decide) rfl ?_
        refine g_iload_n 23 C dX7_isOwedAlike_22 rfl rfl rfl ?_
        obtain ⟨r3, q4, hF⟩ := sg_bndE hF
        refine g_callVi 26 C (w2 := (ww_X7TN Y ad σ)) (As := [.int z1]) (st := [.int r1]) (n0 := 1) (ci := 5) (q0 := 1) [1, 2, 3, 4, 5, 6, 7, 8, 9, 10, 11, 12, 13] [0] [0, 1, 2, 3, 4, 5, 6, 7, 8, 9, 10, 11, 12, 13] (c_X3_owedByMonths l hZ (ad := (sg_e1 1 ad)) q4) gX7_isOwedAlike_X3_owedByMonths ⟨rfl, by decide +kernel, by decide +kernel, rfl⟩ rfl ⟨Nat.le_of_ble_eq_true rfl, Nat.le_of_ble_eq_true rfl⟩ rfl rfl ⟨rfl, rfl, rfl, by decide, rfl, rfl⟩ rfl rfl (Nat.le_of_ble_eq_true rfl) ⟨Nat.le_refl _, Nat.le_refl _⟩ dX7_isOwedAlike_23 rfl rfl ?_
        refine g_icmp_eq 29 31 C dX7_isOwedAlike_26 (by decide) rfl hF (fun hF => ?_) (fun hF => ?_)
        · refine g_iinc 34 C 1 (z1 + 1) [(1, .int (z1 + 1)), (0, .ref (ad 0))] dX7_isOwedAlike_31 rfl rfl rfl (by decide) rfl ?_
          refine g_goto 2 C dX7_isOwedAlike_34 (by decide) ?_
          refine g_lv (lv2 := [(0, .ref (ad 0)), (1, .int (z1 + 1))]) [1, 0] rfl ?_
          exact ih (z1 + 1) hF
        · refine g_iconst 30 C 0 dX7_isOwedAlike_29 rfl (by decide) ?_
          have e1 := sg_someE hF
          exact g_iret C hr rfl hQ hsz dX7_isOwedAlike_30 e1.symm rfl
  rw [f_X7_isOwedAlike] at hF
  refine g_iconst 1 C 0 dX7_isOwedAlike_0 rfl (by decide) ?_
  refine g_istore_n 2 C [(1, .int 0), (0, .ref (ad 0))] dX7_isOwedAlike_1 rfl rfl (by decide) rfl ?_
  refine g_lv (lv2 := [(0, .ref (ad 0)), (1, .int 0)]) [1, 0] rfl ?_
  exact K2  1000 0 hF
theorem kiX7_isDrizzleAlike_X7 : ∀ w ∈ u_ws RX7 TX7 10, w ∈ wsX7_isDrizzleAlike := by decide +kernel
theorem kfX7_isDrizzleAlike_10 : Cond.fieldLink RX7 10 "WeatherMinistry" "now" "LWeatherMinistry$Realm;" ∈ wsX7_isDrizzleAlike := by decide +kernel
theorem kiX7_isDrizzleAlike_X3 : ∀ w ∈ u_ws RX3 TX3 8, w ∈ wsX7_isDrizzleAlike := by decide +kernel
theorem kfX7_isDrizzleAlike_79 : Cond.fieldLink RX7 79 "WeatherMinistry$Realm" "treaties" "LWeatherMinistry$Treaties;" ∈ wsX7_isDrizzleAlike := by decide +kernel
theorem kiX7_isDrizzleAlike_X6 : ∀ w ∈ u_ws RX6 TX6 2, w ∈ wsX7_isDrizzleAlike := by decide +kernel
theorem kfX7_isDrizzleAlike_130 : Cond.fieldLink RX7 130 "WeatherMinistry$Treaties" "drizzled" "[I" ∈ wsX7_isDrizzleAlike := by decide +kernel
def f_X7_isDrizzleAlike_L22 (κ2 : Int32 → sg_S → Option (Int32 × sg_S)) : Nat → Int32 → Int32 → sg_S → Option (Int32 × sg_S)
  | 0, _, _, _ => none
  | nz + 1, z1, z2, σz => (if z2 < 5 then sg_grd (sg_in z2 5) (sg_bnd (f_X6_halvedBySteps z1 20 z2 (sg_e1 6 σz)) (fun r5 => (if σz 8 z2.toNatClampNeg = r5 then f_X7_isDrizzleAlike_L22 κ2 nz z1 (z2 + 1) σz else some (0, σz)))) else κ2 (z1 + 1) σz)
def f_X7_isDrizzleAlike_L2 : Nat → Int32 → sg_S → Option (Int32 × sg_S)
  | 0, _, _ => none
  | nz + 1, z1, σz => (if z1 < 5 then sg_bnd (f_X6_spread z1 20 (sg_e1 6 σz)) (fun τ1 => sg_let (sg_m1 6 3 σz τ1) (fun σ3 => f_X7_isDrizzleAlike_L22 (fun z1' σz' => f_X7_isDrizzleAlike_L2 nz z1' σz') 1000 z1 0 σ3)) else some (1, σz))
def f_X7_isDrizzleAlike  (σ : sg_S) : Option (Int32 × sg_S) := f_X7_isDrizzleAlike_L2 1000 0 σ
set_option maxHeartbeats 4000000 in
set_option maxRecDepth 100000 in
theorem c_X7_isDrizzleAlike (l : Launch) {D : va_G} {Y : Nat → ClassId} {Z : (Nat → Prop) → State → Heap → Prop} (hZ : sg_Zok Z) {ad : Nat → Nat} {σ : sg_S} {σ' : sg_S} {r : Int32} (hF : f_X7_isDrizzleAlike  σ = some (r, σ')) : sg_MI l yX7_isDrizzleAlike wsX7_isDrizzleAlike 3 71 D Y Z [.ref (ad 0)] (ww_X7TN Y ad σ) r (ww_X7TN Y ad σ') := by
  intro sz
  refine sg_enter (own := RX7) (maxL := 3) (ret := (some .boolean)) (cc := cX7_isDrizzleAlike) (by decide +kernel) rfl rfl (Nat.le_of_ble_eq_true rfl) hZ ?_
  intro p e s m args below meth c C hr Q hQ hsz
  refine g_lv (lv2 := [(0, .ref (ad 0))]) [0] rfl ?_
  have K22 : ∀ (κ2 : Int32 → sg_S → Option (Int32 × sg_S)), (∀ (z1 : Int32) (σz : sg_S), κ2 z1 σz = some (r, σ') → sg_G p l e ({ frames := 3, cells := 0, slots := 0, locals := 71 } : Room) s m args below meth c D (va_A (ww_X7TN Y ad σ) s.heap.size) 3 0 0 Q 2 [(0, .ref (ad 0)), (1, .int z1)] [] (ww_X7TN Y ad σz)) → ∀ (nz : Nat), ∀ (z1 : Int32) (z2 : Int32) (σz : sg_S), f_X7_isDrizzleAlike_L22 κ2 nz z1 z2 σz = some (r, σ') → sg_G p l e ({ frames := 3, cells := 0, slots := 0, locals := 71 } : Room) s m args below meth c D (va_A (ww_X7TN Y ad σ) s.heap.size) 3 0 0 Q 22 [(0, .ref (ad 0)), (1, .int z1), (2, .int z2)] [] (ww_X7TN Y ad σz) := by
    intro κ2 hκ2 nz
    induction nz with
    | zero =>
      intro z1 z2 σz hF
      rw [f_X7_isDrizzleAlike_L22.eq_1] at hF
      exact nomatch hF
    | succ nz ih =>
      intro z1 z2 σz hF
      rw [f_X7_isDrizzleAlike_L22.eq_2] at hF
      refine g_iload_n 23 C dX7_isDrizzleAlike_22 rfl rfl rfl ?_
      refine g_iconst 24 C 5 dX7_isDrizzleAlike_23 rfl (by decide) ?_
      refine g_icmp_ge 27 64 C dX7_isDrizzleAlike_24 (by decide) rfl hF (fun hF => ?_) (fun hF => ?_)
      · refine g_iinc 67 C 1 (z1 + 1) [(1, .int (z1 + 1)), (0, .ref (ad 0)), (2, .int z2)] dX7_isDrizzleAlike_64 rfl rfl rfl (by decide) rfl ?_
        refine g_goto 2 C dX7_isDrizzleAlike_67 (by decide) ?_
        refine g_lv (lv2 := [(0, .ref (ad 0)), (1, .int (z1 + 1))]) [1, 0] rfl ?_
        exact hκ2 (z1 + 1) σz hF
      · refine g_aload_n 28 C dX7_isDrizzleAlike_27 rfl rfl rfl ?_
        refine g_get 31 C (own := RX7) (C1 := RX7) (T := TX7) 0 0 (.ref (ad 1)) kiX7_isDrizzleAlike_X7 kfX7_isDrizzleAlike_10 rfl dX7_isDrizzleAlike_28 rfl rfl rfl (by decide) rfl ?_
        refine g_get 34 C (own := RX7) (C1 := RX3) (T := TX3) 1 5 (.ref (ad 6)) kiX7_isDrizzleAlike_X3 kfX7_isDrizzleAlike_79 rfl dX7_isDrizzleAlike_31 rfl rfl rfl (by decide) rfl ?_
        refine g_get 37 C (own := RX7) (C1 := RX6) (T := TX6) 6 1 (.ref (ad 8)) kiX7_isDrizzleAlike_X6 kfX7_isDrizzleAlike_130 rfl dX7_isDrizzleAlike_34 rfl rfl rfl (by decide) rfl ?_
        refine g_iload_n 38 C dX7_isDrizzleAlike_37 rfl rfl rfl ?_
        obtain ⟨h4, hF⟩ := sg_grdE hF
        refine g_ialdc 39 C 8 (z2.toNatClampNeg) (σz 8 z2.toNatClampNeg) dX7_isDrizzleAlike_38 rfl rfl rfl h4 rfl ?_
        refine g_aload_n 40 C dX7_isDrizzleAlike_39 rfl rfl rfl ?_
        refine g_get 43 C (own := RX7) (C1 := RX7) (T := TX7) 0 0 (.ref (ad 1)) kiX7_isDrizzleAlike_X7 kfX7_isDrizzleAlike_10 rfl dX7_isDrizzleAlike_40 rfl rfl rfl (by decide) rfl ?_
        refine g_get 46 C (own := RX7) (C1 := RX3) (T := TX3) 1 5 (.ref (ad 6)) kiX7_isDrizzleAlike_X3 kfX7_isDrizzleAlike_79 rfl dX7_isDrizzleAlike_43 rfl rfl rfl (by decide) rfl ?_
        refine g_iload_n 47 C dX7_isDrizzleAlike_46 rfl rfl rfl ?_
        refine g_bipush 49 C 20 dX7_isDrizzleAlike_47 rfl (by decide) ?_
        refine g_iload_n 50 C dX7_isDrizzleAlike_49 rfl rfl rfl ?_
        obtain ⟨r5, q6, hF⟩ := sg_bndE hF
        refine g_callVi 53 C (w2 := (ww_X7TN Y ad σz)) (As := [.int z1, .int 20, .int z2]) (st := [.int (σz 8 z2.toNatClampNeg)]) (n0 := 3) (ci := 8) (q0 := 6) [6, 7, 8] [0, 1, 2, 3, 4, 5, 9, 10, 11, 12, 13] [0, 1, 2, 3, 4, 5, 11, 12, 13, 6, 7, 8, 9, 10] (c_X6_halvedBySteps l hZ (ad := (sg_e1 6 ad)) q6) gX7_isDrizzleAlike_X6_halvedBySteps ⟨rfl, by decide +kernel, by decide +kernel, rfl⟩ rfl ⟨Nat.le_of_ble_eq_true rfl, Nat.le_of_ble_eq_true rfl⟩ rfl rfl ⟨rfl, rfl, rfl, by decide, rfl, rfl⟩ rfl rfl (Nat.le_of_ble_eq_true rfl) ⟨Nat.le_refl _, Nat.le_refl _⟩ dX7_isDrizzleAlike_50 rfl rfl ?_
        refine g_icmp_eq 56 58 C dX7_isDrizzleAlike_53 (by decide) rfl hF (fun hF => ?_) (fun hF => ?_)
        · refine g_iinc 61 C 2 (z2 + 1) [(2, .int (z2 + 1)), (0, .ref (ad 0)), (1, .int z1)] dX7_isDrizzleAlike_58 rfl rfl rfl (by decide) rfl ?_
          refine g_goto 22 C dX7_isDrizzleAlike_61 (by decide) ?_
          refine g_lv (lv2 := [(0, .ref (ad 0)), (1, .int z1), (2, .int (z2 + 1))]) [1, 2, 0] rfl ?_
          exact ih z1 (z2 + 1) σz hF
        · refine g_iconst 57 C 0 dX7_isDrizzleAlike_56 rfl (by decide) ?_
          obtain ⟨e1, e2⟩ := sg_pairE hF
          exact g_iret C hr rfl hQ hsz dX7_isDrizzleAlike_57 e1.symm (by rw [e2])
  have K2 : ∀ (nz : Nat), ∀ (z1 : Int32) (σz : sg_S), f_X7_isDrizzleAlike_L2 nz z1 σz = some (r, σ') → sg_G p l e ({ frames := 3, cells := 0, slots := 0, locals := 71 } : Room) s m args below meth c D (va_A (ww_X7TN Y ad σ) s.heap.size) 3 0 0 Q 2 [(0, .ref (ad 0)), (1, .int z1)] [] (ww_X7TN Y ad σz) := by
    intro nz
    induction nz with
    | zero =>
      intro z1 σz hF
      rw [f_X7_isDrizzleAlike_L2.eq_1] at hF
      exact nomatch hF
    | succ nz ih =>
      intro z1 σz hF
      rw [f_X7_isDrizzleAlike_L2.eq_2] at hF
      refine g_iload_n 3 C dX7_isDrizzleAlike_2 rfl rfl rfl ?_
      refine g_iconst 4 C 5 dX7_isDrizzleAlike_3 rfl (by decide) ?_
      refine g_icmp_ge 7 70 C dX7_isDrizzleAlike_4 (by decide) rfl hF (fun hF => ?_) (fun hF => ?_)
      · refine g_iconst 71 C 1 dX7_isDrizzleAlike_70 rfl (by decide) ?_
        obtain ⟨e1, e2⟩ := sg_pairE hF
        exact g_iret C hr rfl hQ hsz dX7_isDrizzleAlike_71 e1.symm (by rw [e2])
      · refine g_aload_n 8 C dX7_isDrizzleAlike_7 rfl rfl rfl ?_
        refine g_get 11 C (own := RX7) (C1 := RX7) (T := TX7) 0 0 (.ref (ad 1)) kiX7_isDrizzleAlike_X7 kfX7_isDrizzleAlike_10 rfl dX7_isDrizzleAlike_8 rfl rfl rfl (by decide) rfl ?_
        refine g_get 14 C (own := RX7) (C1 := RX3) (T := TX3) 1 5 (.ref (ad 6)) kiX7_isDrizzleAlike_X3 kfX7_isDrizzleAlike_79 rfl dX7_isDrizzleAlike_11 rfl rfl rfl (by decide) rfl ?_
        refine g_iload_n 15 C dX7_isDrizzleAlike_14 rfl rfl rfl ?_
        refine g_bipush 17 C 20 dX7_isDrizzleAlike_15 rfl (by decide) ?_
        obtain ⟨τ1, q2, hF⟩ := sg_bndE hF
        obtain ⟨σ3, eσ3, hF⟩ := sg_letE hF
        refine g_callVv 20 C (w2 := (ww_X7TN Y ad σ3)) (As := [.int z1, .int 20]) (st := []) (n0 := 2) (ci := 8) (q0 := 6) [6, 7, 8] [0, 1, 2, 3, 4, 5, 9, 10, 11, 12, 13] [0, 1, 2, 3, 4, 5, 11, 12, 13, 6, 7, 8, 9, 10] (c_X6_spread l hZ (ad := (sg_e1 6 ad)) q2) gX7_isDrizzleAlike_X6_spread ⟨rfl, by decide +kernel, by decide +kernel, rfl⟩ rfl ⟨Nat.le_of_ble_eq_true rfl, Nat.le_of_ble_eq_true rfl⟩ rfl rfl (by subst eσ3; exact ⟨rfl, rfl, rfl, by decide, rfl, rfl⟩) rfl rfl (Nat.le_of_ble_eq_true rfl) ⟨Nat.le_refl _, Nat.le_refl _⟩ dX7_isDrizzleAlike_17 rfl rfl ?_
        refine g_iconst 21 C 0 dX7_isDrizzleAlike_20 rfl (by decide) ?_
        refine g_istore_n 22 C [(2, .int 0), (0, .ref (ad 0)), (1, .int z1)] dX7_isDrizzleAlike_21 rfl rfl (by decide) rfl ?_
        refine g_lv (lv2 := [(0, .ref (ad 0)), (1, .int z1), (2, .int 0)]) [1, 2, 0] rfl ?_
        exact K22 (fun z1' σz' => f_X7_isDrizzleAlike_L2 nz z1' σz') ih 1000 z1 0 σ3 hF
  rw [f_X7_isDrizzleAlike] at hF
  refine g_iconst 1 C 0 dX7_isDrizzleAlike_0 rfl (by decide) ?_
  refine g_istore_n 2 C [(1, .int 0), (0, .ref (ad 0))] dX7_isDrizzleAlike_1 rfl rfl (by decide) rfl ?_
  refine g_lv (lv2 := [(0, .ref (ad 0)), (1, .int 0)]) [1, 0] rfl ?_
  exact K2  1000 0 σ hF
theorem kiX7_isCounted_X7 : ∀ w ∈ u_ws RX7 TX7 10, w ∈ wsX7_isCounted := by decide +kernel
theorem kfX7_isCounted_10 : Cond.fieldLink RX7 10 "WeatherMinistry" "now" "LWeatherMinistry$Realm;" ∈ wsX7_isCounted := by decide +kernel
def f_X7_isCounted  (σ : sg_S) : Option (Int32 × sg_S) := sg_bnd (f_X7_isOwedAlike  σ) (fun r1 => (if r1 = 0 then some (0, σ) else sg_bnd2 (f_X7_isDrizzleAlike  σ) (fun r5 τ3 => (if r5 = 0 then some (0, τ3) else sg_bnd (f_X3_isSunCounted  (sg_e1 1 τ3)) (fun r6 => (if r6 = 0 then some (0, τ3) else some (1, τ3)))))))
set_option maxHeartbeats 4000000 in
set_option maxRecDepth 100000 in
theorem c_X7_isCounted (l : Launch) {D : va_G} {Y : Nat → ClassId} {Z : (Nat → Prop) → State → Heap → Prop} (hZ : sg_Zok Z) {ad : Nat → Nat} {σ : sg_S} {σ' : sg_S} {r : Int32} (hF : f_X7_isCounted  σ = some (r, σ')) : sg_MI l yX7_isCounted wsX7_isCounted 4 93 D Y Z [.ref (ad 0)] (ww_X7TN Y ad σ) r (ww_X7TN Y ad σ') := by
  intro sz
  refine sg_enter (own := RX7) (maxL := 1) (ret := (some .boolean)) (cc := cX7_isCounted) (by decide +kernel) rfl rfl (Nat.le_of_ble_eq_true rfl) hZ ?_
  intro p e s m args below meth c C hr Q hQ hsz
  refine g_lv (lv2 := [(0, .ref (ad 0))]) [0] rfl ?_
  rw [f_X7_isCounted] at hF
  refine g_aload_n 1 C dX7_isCounted_0 rfl rfl rfl ?_
  obtain ⟨r1, q2, hF⟩ := sg_bndE hF
  refine g_callVi 4 C (w2 := (ww_X7TN Y ad σ)) (As := []) (st := []) (n0 := 0) (ci := 9) (q0 := 0) [0, 1, 2, 3, 4, 5, 6, 7, 8, 9, 10, 11, 12, 13] [] [0, 1, 2, 3, 4, 5, 6, 7, 8, 9, 10, 11, 12, 13] (c_X7_isOwedAlike l hZ (ad := ad) q2) gX7_isCounted_X7_isOwedAlike ⟨rfl, by decide +kernel, by decide +kernel, rfl⟩ rfl ⟨Nat.le_of_ble_eq_true rfl, Nat.le_of_ble_eq_true rfl⟩ rfl rfl ⟨rfl, rfl, rfl, by decide, rfl, rfl⟩ rfl rfl (Nat.le_of_ble_eq_true rfl) ⟨Nat.le_refl _, Nat.le_refl _⟩ dX7_isCounted_1 rfl rfl ?_
  refine g_if_eq 7 28 C dX7_isCounted_4 (by decide) rfl hF (fun hF => ?_) (fun hF => ?_)
  · refine g_iconst 29 C 0 dX7_isCounted_28 rfl (by decide) ?_
    obtain ⟨e1, e2⟩ := sg_pairE hF
    exact g_iret C hr rfl hQ hsz dX7_isCounted_29 e1.symm (by rw [e2])
  · refine g_aload_n 8 C dX7_isCounted_7 rfl rfl rfl ?_
    obtain ⟨r5, τ3, q4, hF⟩ := sg_bnd2E hF
    refine g_callVi 11 C (w2 := (ww_X7TN Y ad τ3)) (As := []) (st := []) (n0 := 0) (ci := 9) (q0 := 0) [0, 1, 2, 3, 4, 5, 6, 7, 8, 9, 10, 11, 12, 13] [] [0, 1, 2, 3, 4, 5, 6, 7, 8, 9, 10, 11, 12, 13] (c_X7_isDrizzleAlike l hZ (ad := ad) q4) gX7_isCounted_X7_isDrizzleAlike ⟨rfl, by decide +kernel, by decide +kernel, rfl⟩ rfl ⟨Nat.le_of_ble_eq_true rfl, Nat.le_of_ble_eq_true rfl⟩ rfl rfl ⟨rfl, rfl, rfl, by decide, rfl, rfl⟩ rfl rfl (Nat.le_of_ble_eq_true rfl) ⟨Nat.le_refl _, Nat.le_refl _⟩ dX7_isCounted_8 rfl rfl ?_
    refine g_if_eq 14 28 C dX7_isCounted_11 (by decide) rfl hF (fun hF => ?_) (fun hF => ?_)
    · refine g_iconst 29 C 0 dX7_isCounted_28 rfl (by decide) ?_
      obtain ⟨e1, e2⟩ := sg_pairE hF
      exact g_iret C hr rfl hQ hsz dX7_isCounted_29 e1.symm (by rw [e2])
    · refine g_aload_n 15 C dX7_isCounted_14 rfl rfl rfl ?_
      refine g_get 18 C (own := RX7) (C1 := RX7) (T := TX7) 0 0 (.ref (ad 1)) kiX7_isCounted_X7 kfX7_isCounted_10 rfl dX7_isCounted_15 rfl rfl rfl (by decide) rfl ?_
      obtain ⟨r6, q7, hF⟩ := sg_bndE hF
      refine g_callVi 21 C (w2 := (ww_X7TN Y ad τ3)) (As := []) (st := []) (n0 := 0) (ci := 5) (q0 := 1) [1, 2, 3, 4, 5, 6, 7, 8, 9, 10, 11, 12, 13] [0] [0, 1, 2, 3, 4, 5, 6, 7, 8, 9, 10, 11, 12, 13] (c_X3_isSunCounted l hZ (ad := (sg_e1 1 ad)) q7) gX7_isCounted_X3_isSunCounted ⟨rfl, by decide +kernel, by decide +kernel, rfl⟩ rfl ⟨Nat.le_of_ble_eq_true rfl, Nat.le_of_ble_eq_true rfl⟩ rfl rfl ⟨rfl, rfl, rfl, by decide, rfl, rfl⟩ rfl rfl (Nat.le_of_ble_eq_true rfl) ⟨Nat.le_refl _, Nat.le_refl _⟩ dX7_isCounted_18 rfl rfl ?_
      refine g_if_eq 24 28 C dX7_isCounted_21 (by decide) rfl hF (fun hF => ?_) (fun hF => ?_)
      · refine g_iconst 29 C 0 dX7_isCounted_28 rfl (by decide) ?_
        obtain ⟨e1, e2⟩ := sg_pairE hF
        exact g_iret C hr rfl hQ hsz dX7_isCounted_29 e1.symm (by rw [e2])
      · refine g_iconst 25 C 1 dX7_isCounted_24 rfl (by decide) ?_
        refine g_goto 29 C dX7_isCounted_25 (by decide) ?_
        obtain ⟨e1, e2⟩ := sg_pairE hF
        exact g_iret C hr rfl hQ hsz dX7_isCounted_29 e1.symm (by rw [e2])
theorem kiX7_wouldBePaid_X7 : ∀ w ∈ u_ws RX7 TX7 10, w ∈ wsX7_wouldBePaid := by decide +kernel
theorem kfX7_wouldBePaid_19 : Cond.fieldLink RX7 19 "WeatherMinistry" "trial" "LWeatherMinistry$Realm;" ∈ wsX7_wouldBePaid := by decide +kernel
theorem kfX7_wouldBePaid_10 : Cond.fieldLink RX7 10 "WeatherMinistry" "now" "LWeatherMinistry$Realm;" ∈ wsX7_wouldBePaid := by decide +kernel
theorem kiX7_wouldBePaid_X3 : ∀ w ∈ u_ws RX3 TX3 8, w ∈ wsX7_wouldBePaid := by decide +kernel
theorem kfX7_wouldBePaid_154 : Cond.fieldLink RX7 154 "WeatherMinistry$Realm" "sun" "[I" ∈ wsX7_wouldBePaid := by decide +kernel
theorem kfX7_wouldBePaid_69 : Cond.fieldLink RX7 69 "WeatherMinistry$Realm" "credits" "LWeatherMinistry$Credits;" ∈ wsX7_wouldBePaid := by decide +kernel
theorem kfX7_wouldBePaid_108 : Cond.fieldLink RX7 108 "WeatherMinistry$Realm" "month" "I" ∈ wsX7_wouldBePaid := by decide +kernel
def f_X7_wouldBePaid_L33 (x1 : Int32) (x2 : Int32) (x3 : Int32) : Nat → Int32 → sg_S → Option (Int32 × sg_S)
  | 0, _, _ => none
  | nz + 1, z4, σz => (if z4 < x3 then sg_bnd2 (f_X3_pass  (sg_e1 28 σz)) (fun r14 τ12 => sg_let (sg_m1 28 13 σz τ12) (fun σ15 => f_X7_wouldBePaid_L33 x1 x2 x3 nz (z4 + 1) σ15)) else sg_grd (sg_in x1 5) (sg_bnd (f_X1_owedIn x1 ((σz 28 0) + 1) (sg_e1 36 σz)) (fun r10 => (if r10 ≤ σz 29 x1.toNatClampNeg then some (1, σz) else some (0, σz)))))
def f_X7_wouldBePaid (x1 : Int32) (x2 : Int32) (x3 : Int32) (σ : sg_S) : Option (Int32 × sg_S) := sg_bnd (f_X7_isTown x1) (fun r1 => (if r1 = 0 then some (0, σ) else sg_bnd (f_X3_copyFrom  (sg_e2 13 28 1 σ)) (fun τ3 => sg_let (sg_m2 28 13 1 13 σ τ3) (fun σ5 => sg_bnd (f_X3_giveCredit x1 x2 x3 (sg_e1 28 σ5)) (fun τ6 => sg_let (sg_m1 28 13 σ5 τ6) (fun σ8 => f_X7_wouldBePaid_L33 x1 x2 x3 1000 1 σ8))))))
set_option maxHeartbeats 4000000 in
set_option maxRecDepth 100000 in
theorem c_X7_wouldBePaid (l : Launch) {D : va_G} {Y : Nat → ClassId} {Z : (Nat → Prop) → State → Heap → Prop} (hZ : sg_Zok Z) {ad : Nat → Nat} {σ : sg_S} {σ' : sg_S} {x1 x2 x3 : Int32} {r : Int32} (hF : f_X7_wouldBePaid x1 x2 x3 σ = some (r, σ')) : sg_MI l yX7_wouldBePaid wsX7_wouldBePaid 4 98 D Y Z [.ref (ad 0), .int x1, .int x2, .int x3] (ww_X7TNR Y ad σ) r (ww_X7TNR Y ad σ') := by
  intro sz
  refine sg_enter (own := RX7) (maxL := 5) (ret := (some .boolean)) (cc := cX7_wouldBePaid) (by decide +kernel) rfl rfl (Nat.le_of_ble_eq_true rfl) hZ ?_
  intro p e s m args below meth c C hr Q hQ hsz
  refine g_lv (lv2 := [(0, .ref (ad 0)), (1, .int x1), (2, .int x2), (3, .int x3)]) [0, 1, 2, 3] rfl ?_
  have K33 : ∀ (nz : Nat), ∀ (z4 : Int32) (σz : sg_S), f_X7_wouldBePaid_L33 x1 x2 x3 nz z4 σz = some (r, σ') → sg_G p l e ({ frames := 4, cells := 0, slots := 0, locals := 98 } : Room) s m args below meth c D (va_A (ww_X7TNR Y ad σ) s.heap.size) 5 0 0 Q 33 [(0, .ref (ad 0)), (1, .int x1), (3, .int x3), (4, .int z4)] [] (ww_X7TNR Y ad σz) := by
    intro nz
    induction nz with
    | zero =>
      intro z4 σz hF
      rw [f_X7_wouldBePaid_L33.eq_1] at hF
      exact nomatch hF
    | succ nz ih =>
      intro z4 σz hF
      rw [f_X7_wouldBePaid_L33.eq_2] at hF
      refine g_iload 35 C dX7_wouldBePaid_33 rfl rfl ?_
      refine g_iload_n 36 C dX7_wouldBePaid_35 rfl rfl rfl ?_
      refine g_icmp_ge 39 53 C dX7_wouldBePaid_36 (by decide) rfl hF (fun hF => ?_) (fun hF => ?_)
      · refine g_aload_n 54 C dX7_wouldBePaid_53 rfl rfl rfl ?_
        refine g_get 57 C (own := RX7) (C1 := RX7) (T := TX7) 0 2 (.ref (ad 28)) kiX7_wouldBePaid_X7 kfX7_wouldBePaid_19 rfl dX7_wouldBePaid_54 rfl rfl rfl (by decide) rfl ?_
        refine g_get 60 C (own := RX7) (C1 := RX3) (T := TX3) 14 1 (.ref (ad 29)) kiX7_wouldBePaid_X3 kfX7_wouldBePaid_154 rfl dX7_wouldBePaid_57 rfl rfl rfl (by decide) rfl ?_
        refine g_iload_n 61 C dX7_wouldBePaid_60 rfl rfl rfl ?_
        obtain ⟨h9, hF⟩ := sg_grdE hF
        refine g_ialdc 62 C 15 (x1.toNatClampNeg) (σz 29 x1.toNatClampNeg) dX7_wouldBePaid_61 rfl rfl rfl h9 rfl ?_
        refine g_aload_n 63 C dX7_wouldBePaid_62 rfl rfl rfl ?_
        refine g_get 66 C (own := RX7) (C1 := RX7) (T := TX7) 0 2 (.ref (ad 28)) kiX7_wouldBePaid_X7 kfX7_wouldBePaid_19 rfl dX7_wouldBePaid_63 rfl rfl rfl (by decide) rfl ?_
        refine g_get 69 C (own := RX7) (C1 := RX3) (T := TX3) 14 6 (.ref (ad 36)) kiX7_wouldBePaid_X3 kfX7_wouldBePaid_69 rfl dX7_wouldBePaid_66 rfl rfl rfl (by decide) rfl ?_
        refine g_iload_n 70 C dX7_wouldBePaid_69 rfl rfl rfl ?_
        refine g_aload_n 71 C dX7_wouldBePaid_70 rfl rfl rfl ?_
        refine g_get 74 C (own := RX7) (C1 := RX7) (T := TX7) 0 2 (.ref (ad 28)) kiX7_wouldBePaid_X7 kfX7_wouldBePaid_19 rfl dX7_wouldBePaid_71 rfl rfl rfl (by decide) rfl ?_
        refine g_get 77 C (own := RX7) (C1 := RX3) (T := TX3) 14 0 (.int (σz 28 0)) kiX7_wouldBePaid_X3 kfX7_wouldBePaid_108 rfl dX7_wouldBePaid_74 rfl rfl rfl (by decide) rfl ?_
        refine g_iconst 78 C 1 dX7_wouldBePaid_77 rfl (by decide) ?_
        refine g_iadd 79 C dX7_wouldBePaid_78 rfl ?_
        obtain ⟨r10, q11, hF⟩ := sg_bndE hF
        refine g_callVi 82 C (w2 := (ww_X7TNR Y ad σz)) (As := [.int x1, .int ((σz 28 0) + 1)]) (st := [.int (σz 29 x1.toNatClampNeg)]) (n0 := 2) (ci := 3) (q0 := 22) [22, 23, 24, 25] [0, 1, 2, 3, 4, 5, 6, 7, 8, 9, 10, 11, 12, 13, 14, 15, 16, 17, 18, 19, 20, 21, 26] [0, 1, 2, 3, 4, 5, 6, 7, 8, 9, 10, 11, 12, 13, 14, 15, 16, 17, 18, 19, 20, 21, 23, 24, 25, 26, 22] (c_X1_owedIn l hZ (ad := (sg_e1 36 ad)) q11) gX7_wouldBePaid_X1_owedIn ⟨rfl, by decide +kernel, by decide +kernel, rfl⟩ rfl ⟨Nat.le_of_ble_eq_true rfl, Nat.le_of_ble_eq_true rfl⟩ rfl rfl ⟨rfl, rfl, rfl, by decide, rfl, rfl⟩ rfl rfl (Nat.le_of_ble_eq_true rfl) ⟨Nat.le_refl _, Nat.le_refl _⟩ dX7_wouldBePaid_79 rfl rfl ?_
        refine g_icmp_lt 85 89 C dX7_wouldBePaid_82 (by decide) rfl hF (fun hF => ?_) (fun hF => ?_)
        · refine g_iconst 90 C 0 dX7_wouldBePaid_89 rfl (by decide) ?_
          obtain ⟨e1, e2⟩ := sg_pairE hF
          exact g_iret C hr rfl hQ hsz dX7_wouldBePaid_90 e1.symm (by rw [e2])
        · refine g_iconst 86 C 1 dX7_wouldBePaid_85 rfl (by decide) ?_
          refine g_goto 90 C dX7_wouldBePaid_86 (by decide) ?_
          obtain ⟨e1, e2⟩ := sg_pairE hF
          exact g_iret C hr rfl hQ hsz dX7_wouldBePaid_90 e1.symm (by rw [e2])
      · refine g_aload_n 40 C dX7_wouldBePaid_39 rfl rfl rfl ?_
        refine g_get 43 C (own := RX7) (C1 := RX7) (T := TX7) 0 2 (.ref (ad 28)) kiX7_wouldBePaid_X7 kfX7_wouldBePaid_19 rfl dX7_wouldBePaid_40 rfl rfl rfl (by decide) rfl ?_
        obtain ⟨r14, τ12, q13, hF⟩ := sg_bnd2E hF
        obtain ⟨σ15, eσ15, hF⟩ := sg_letE hF
        refine g_callVi 46 C (w2 := (ww_X7TNR Y ad σ15)) (As := []) (st := []) (n0 := 0) (ci := 5) (q0 := 14) [14, 15, 16, 17, 18, 19, 20, 21, 22, 23, 24, 25, 26] [0, 1, 2, 3, 4, 5, 6, 7, 8, 9, 10, 11, 12, 13] [0, 1, 2, 3, 4, 5, 6, 7, 8, 9, 10, 11, 12, 13, 14, 15, 16, 17, 18, 19, 20, 21, 22, 23, 24, 25, 26] (c_X3_pass l hZ (ad := (sg_e1 28 ad)) q13) gX7_wouldBePaid_X3_pass ⟨rfl, by decide +kernel, by decide +kernel, rfl⟩ rfl ⟨Nat.le_of_ble_eq_true rfl, Nat.le_of_ble_eq_true rfl⟩ rfl rfl (by subst eσ15; exact ⟨rfl, rfl, rfl, by decide, rfl, rfl⟩) rfl rfl (Nat.le_of_ble_eq_true rfl) ⟨Nat.le_refl _, Nat.le_refl _⟩ dX7_wouldBePaid_43 rfl rfl ?_
        refine g_pop 47 C dX7_wouldBePaid_46 rfl rfl ?_
        refine g_iinc 50 C 3 (z4 + 1) [(4, .int (z4 + 1)), (0, .ref (ad 0)), (1, .int x1), (3, .int x3)] dX7_wouldBePaid_47 rfl rfl rfl (by decide) rfl ?_
        refine g_goto 33 C dX7_wouldBePaid_50 (by decide) ?_
        refine g_lv (lv2 := [(0, .ref (ad 0)), (1, .int x1), (3, .int x3), (4, .int (z4 + 1))]) [1, 2, 3, 0] rfl ?_
        exact ih (z4 + 1) σ15 hF
  rw [f_X7_wouldBePaid] at hF
  refine g_iload_n 1 C dX7_wouldBePaid_0 rfl rfl rfl ?_
  obtain ⟨r1, q2, hF⟩ := sg_bndE hF
  refine g_callSi 4 C (w2 := (ww_X7TNR Y ad σ)) (As := [.int x1]) (st := []) (n0 := 1) [] [0, 1, 2, 3, 4, 5, 6, 7, 8, 9, 10, 11, 12, 13, 14, 15, 16, 17, 18, 19, 20, 21, 22, 23, 24, 25, 26] [0, 1, 2, 3, 4, 5, 6, 7, 8, 9, 10, 11, 12, 13, 14, 15, 16, 17, 18, 19, 20, 21, 22, 23, 24, 25, 26] (c_X7_isTown l hZ (ad := ad) (σ := σ) q2) gX7_wouldBePaid_X7_isTown ⟨by decide +kernel, by decide +kernel, rfl⟩ rfl ⟨Nat.le_of_ble_eq_true rfl, Nat.le_of_ble_eq_true rfl⟩ ⟨rfl, rfl, rfl, by decide, rfl, rfl⟩ rfl rfl (Nat.le_of_ble_eq_true rfl) ⟨Nat.le_refl _, Nat.le_refl _⟩ dX7_wouldBePaid_1 rfl rfl ?_
  refine g_if_ne 7 9 C dX7_wouldBePaid_4 (by decide) rfl hF (fun hF => ?_) (fun hF => ?_)
  · refine g_aload_n 10 C dX7_wouldBePaid_9 rfl rfl rfl ?_
    refine g_get 13 C (own := RX7) (C1 := RX7) (T := TX7) 0 2 (.ref (ad 28)) kiX7_wouldBePaid_X7 kfX7_wouldBePaid_19 rfl dX7_wouldBePaid_10 rfl rfl rfl (by decide) rfl ?_
    refine g_aload_n 14 C dX7_wouldBePaid_13 rfl rfl rfl ?_
    refine g_get 17 C (own := RX7) (C1 := RX7) (T := TX7) 0 0 (.ref (ad 1)) kiX7_wouldBePaid_X7 kfX7_wouldBePaid_10 rfl dX7_wouldBePaid_14 rfl rfl rfl (by decide) rfl ?_
    obtain ⟨τ3, q4, hF⟩ := sg_bndE hF
    obtain ⟨σ5, eσ5, hF⟩ := sg_letE hF
    refine g_callVv 20 C (w2 := (ww_X7TNR Y ad σ5)) (As := [.ref (ad 1)]) (st := []) (n0 := 1) (ci := 5) (q0 := 14) [14, 15, 16, 17, 18, 19, 20, 21, 22, 23, 24, 25, 26, 1, 2, 3, 4, 5, 6, 7, 8, 9, 10, 11, 12, 13] [0] [0, 14, 15, 16, 17, 18, 19, 20, 21, 22, 23, 24, 25, 26, 1, 2, 3, 4, 5, 6, 7, 8, 9, 10, 11, 12, 13] (c_X3_copyFrom l hZ (ad := (sg_e2 13 28 1 ad)) q4) gX7_wouldBePaid_X3_copyFrom ⟨rfl, by decide +kernel, by decide +kernel, rfl⟩ rfl ⟨Nat.le_of_ble_eq_true rfl, Nat.le_of_ble_eq_true rfl⟩ rfl rfl (by subst eσ5; exact ⟨rfl, rfl, rfl, by decide, rfl, rfl⟩) rfl rfl (Nat.le_of_ble_eq_true rfl) ⟨Nat.le_refl _, Nat.le_refl _⟩ dX7_wouldBePaid_17 rfl rfl ?_
    refine g_aload_n 21 C dX7_wouldBePaid_20 rfl rfl rfl ?_
    refine g_get 24 C (own := RX7) (C1 := RX7) (T := TX7) 0 2 (.ref (ad 28)) kiX7_wouldBePaid_X7 kfX7_wouldBePaid_19 rfl dX7_wouldBePaid_21 rfl rfl rfl (by decide) rfl ?_
    refine g_iload_n 25 C dX7_wouldBePaid_24 rfl rfl rfl ?_
    refine g_iload_n 26 C dX7_wouldBePaid_25 rfl rfl rfl ?_
    refine g_iload_n 27 C dX7_wouldBePaid_26 rfl rfl rfl ?_
    obtain ⟨τ6, q7, hF⟩ := sg_bndE hF
    obtain ⟨σ8, eσ8, hF⟩ := sg_letE hF
    refine g_callVv 30 C (w2 := (ww_X7TNR Y ad σ8)) (As := [.int x1, .int x2, .int x3]) (st := []) (n0 := 3) (ci := 5) (q0 := 14) [14, 15, 16, 17, 18, 19, 20, 21, 22, 23, 24, 25, 26] [0, 1, 2, 3, 4, 5, 6, 7, 8, 9, 10, 11, 12, 13] [0, 1, 2, 3, 4, 5, 6, 7, 8, 9, 10, 11, 12, 13, 14, 15, 16, 17, 18, 19, 20, 21, 22, 23, 24, 25, 26] (c_X3_giveCredit l hZ (ad := (sg_e1 28 ad)) q7) gX7_wouldBePaid_X3_giveCredit ⟨rfl, by decide +kernel, by decide +kernel, rfl⟩ rfl ⟨Nat.le_of_ble_eq_true rfl, Nat.le_of_ble_eq_true rfl⟩ rfl rfl (by subst eσ8; exact ⟨rfl, rfl, rfl, by decide, rfl, rfl⟩) rfl rfl (Nat.le_of_ble_eq_true rfl) ⟨Nat.le_refl _, Nat.le_refl _⟩ dX7_wouldBePaid_27 rfl rfl ?_
    refine g_iconst 31 C 1 dX7_wouldBePaid_30 rfl (by decide) ?_
    refine g_istore 33 C [(4, .int 1), (0, .ref (ad 0)), (1, .int x1), (2, .int x2), (3, .int x3)] dX7_wouldBePaid_31 rfl (by decide) rfl ?_
    refine g_lv (lv2 := [(0, .ref (ad 0)), (1, .int x1), (3, .int x3), (4, .int 1)]) [1, 2, 4, 0] rfl ?_
    exact K33  1000 1 σ8 hF
  · refine g_iconst 8 C 0 dX7_wouldBePaid_7 rfl (by decide) ?_
    obtain ⟨e1, e2⟩ := sg_pairE hF
    exact g_iret C hr rfl hQ hsz dX7_wouldBePaid_8 e1.symm (by rw [e2])
theorem kiX7_most_X7 : ∀ w ∈ u_ws RX7 TX7 10, w ∈ wsX7_most := by decide +kernel
theorem kfX7_most_10 : Cond.fieldLink RX7 10 "WeatherMinistry" "now" "LWeatherMinistry$Realm;" ∈ wsX7_most := by decide +kernel
theorem kiX7_most_X3 : ∀ w ∈ u_ws RX3 TX3 8, w ∈ wsX7_most := by decide +kernel
theorem kfX7_most_148 : Cond.fieldLink RX7 148 "WeatherMinistry$Realm" "arrears" "[I" ∈ wsX7_most := by decide +kernel
theorem kfX7_most_69 : Cond.fieldLink RX7 69 "WeatherMinistry$Realm" "credits" "LWeatherMinistry$Credits;" ∈ wsX7_most := by decide +kernel
theorem kiX7_most_X1 : ∀ w ∈ u_ws RX1 TX1 4, w ∈ wsX7_most := by decide +kernel
theorem kfX7_most_151 : Cond.fieldLink RX7 151 "WeatherMinistry$Credits" "count" "I" ∈ wsX7_most := by decide +kernel
theorem kfX7_most_154 : Cond.fieldLink RX7 154 "WeatherMinistry$Realm" "sun" "[I" ∈ wsX7_most := by decide +kernel
theorem kmX7_most_157 : Cond.methodLink RX7 157 Lib.Math.min.name ∈ wsX7_most := by decide +kernel
theorem ksX7_most_mmin : Cond.static Lib.Math.min.name ∈ wsX7_most := by decide +kernel
theorem knX7_most_math : Cond.initialized "java/lang/Math" ∈ wsX7_most := by decide +kernel
theorem kcX7_most_mmin : Cond.code Lib.Math.min.name Lib.Math.min.code 2 (some .int) ∈ wsX7_most := by decide +kernel
def f_X7_most_L66 (x1 : Int32) (x2 : Int32) : Nat → Int32 → sg_S → Option (Int32 × sg_S)
  | 0, _, _ => none
  | nz + 1, z3, σz => (if 0 < z3 then sg_bnd2 (f_X7_wouldBePaid x1 z3 x2 σz) (fun r9 τ7 => (if r9 = 0 then f_X7_most_L66 x1 x2 nz (z3 + (-1)) τ7 else some (z3, τ7))) else some (0, σz))
def f_X7_most (x1 : Int32) (x2 : Int32) (σ : sg_S) : Option (Int32 × sg_S) := sg_bnd (f_X7_isTown x1) (fun r1 => (if r1 = 0 then some ((-1), σ) else sg_bnd (f_X7_isMonths x2) (fun r3 => (if r3 = 0 then some ((-2), σ) else sg_grd (sg_in x1 5) ((if σ 5 x1.toNatClampNeg ≤ 0 then (if 8 ≤ σ 9 0 then some (0, σ) else sg_let (if 60 - (σ 2 x1.toNatClampNeg) < 20 then 60 - (σ 2 x1.toNatClampNeg) else 20) (fun y6 => f_X7_most_L66 x1 x2 1000 y6 σ)) else some (0, σ)))))))
set_option maxHeartbeats 4000000 in
set_option maxRecDepth 100000 in
theorem c_X7_most (l : Launch) {D : va_G} {Y : Nat → ClassId} {Z : (Nat → Prop) → State → Heap → Prop} (hZ : sg_Zok Z) {ad : Nat → Nat} {σ : sg_S} {σ' : sg_S} {x1 x2 : Int32} {r : Int32} (hF : f_X7_most x1 x2 σ = some (r, σ')) : sg_MI l yX7_most wsX7_most 5 122 D Y Z [.ref (ad 0), .int x1, .int x2] (ww_X7TNR Y ad σ) r (ww_X7TNR Y ad σ') := by
  intro sz
  refine sg_enter (own := RX7) (maxL := 4) (ret := (some .int)) (cc := cX7_most) (by decide +kernel) rfl rfl (Nat.le_of_ble_eq_true rfl) hZ ?_
  intro p e s m args below meth c C hr Q hQ hsz
  refine g_lv (lv2 := [(0, .ref (ad 0)), (1, .int x1), (2, .int x2)]) [0, 1, 2] rfl ?_
  have K66 : ∀ (nz : Nat), ∀ (z3 : Int32) (σz : sg_S), f_X7_most_L66 x1 x2 nz z3 σz = some (r, σ') → sg_G p l e ({ frames := 5, cells := 0, slots := 0, locals := 122 } : Room) s m args below meth c D (va_A (ww_X7TNR Y ad σ) s.heap.size) 4 0 0 Q 66 [(0, .ref (ad 0)), (1, .int x1), (2, .int x2), (3, .int z3)] [] (ww_X7TNR Y ad σz) := by
    intro nz
    induction nz with
    | zero =>
      intro z3 σz hF
      rw [f_X7_most_L66.eq_1] at hF
      exact nomatch hF
    | succ nz ih =>
      intro z3 σz hF
      rw [f_X7_most_L66.eq_2] at hF
      refine g_iload_n 67 C dX7_most_66 rfl rfl rfl ?_
      refine g_if_le 70 88 C dX7_most_67 (by decide) rfl hF (fun hF => ?_) (fun hF => ?_)
      · refine g_iconst 89 C 0 dX7_most_88 rfl (by decide) ?_
        obtain ⟨e1, e2⟩ := sg_pairE hF
        exact g_iret C hr rfl hQ hsz dX7_most_89 e1.symm (by rw [e2])
      · refine g_aload_n 71 C dX7_most_70 rfl rfl rfl ?_
        refine g_iload_n 72 C dX7_most_71 rfl rfl rfl ?_
        refine g_iload_n 73 C dX7_most_72 rfl rfl rfl ?_
        refine g_iload_n 74 C dX7_most_73 rfl rfl rfl ?_
        obtain ⟨r9, τ7, q8, hF⟩ := sg_bnd2E hF
        refine g_callVi 77 C (w2 := (ww_X7TNR Y ad τ7)) (As := [.int x1, .int z3, .int x2]) (st := []) (n0 := 3) (ci := 9) (q0 := 0) [0, 1, 2, 3, 4, 5, 6, 7, 8, 9, 10, 11, 12, 13, 14, 15, 16, 17, 18, 19, 20, 21, 22, 23, 24, 25, 26] [] [0, 1, 2, 3, 4, 5, 6, 7, 8, 9, 10, 11, 12, 13, 14, 15, 16, 17, 18, 19, 20, 21, 22, 23, 24, 25, 26] (c_X7_wouldBePaid l hZ (ad := ad) q8) gX7_most_X7_wouldBePaid ⟨rfl, by decide +kernel, by decide +kernel, rfl⟩ rfl ⟨Nat.le_of_ble_eq_true rfl, Nat.le_of_ble_eq_true rfl⟩ rfl rfl ⟨rfl, rfl, rfl, by decide, rfl, rfl⟩ rfl rfl (Nat.le_of_ble_eq_true rfl) ⟨Nat.le_refl _, Nat.le_refl _⟩ dX7_most_74 rfl rfl ?_
        refine g_if_eq 80 82 C dX7_most_77 (by decide) rfl hF (fun hF => ?_) (fun hF => ?_)
        · refine g_iinc 85 C 3 (z3 + (-1)) [(3, .int (z3 + (-1))), (0, .ref (ad 0)), (1, .int x1), (2, .int x2)] dX7_most_82 rfl rfl rfl (by decide) rfl ?_
          refine g_goto 66 C dX7_most_85 (by decide) ?_
          refine g_lv (lv2 := [(0, .ref (ad 0)), (1, .int x1), (2, .int x2), (3, .int (z3 + (-1)))]) [1, 2, 3, 0] rfl ?_
          exact ih (z3 + (-1)) τ7 hF
        · refine g_iload_n 81 C dX7_most_80 rfl rfl rfl ?_
          obtain ⟨e1, e2⟩ := sg_pairE hF
          exact g_iret C hr rfl hQ hsz dX7_most_81 e1.symm (by rw [e2])
  rw [f_X7_most] at hF
  refine g_iload_n 1 C dX7_most_0 rfl rfl rfl ?_
  obtain ⟨r1, q2, hF⟩ := sg_bndE hF
  refine g_callSi 4 C (w2 := (ww_X7TNR Y ad σ)) (As := [.int x1]) (st := []) (n0 := 1) [] [0, 1, 2, 3, 4, 5, 6, 7, 8, 9, 10, 11, 12, 13, 14, 15, 16, 17, 18, 19, 20, 21, 22, 23, 24, 25, 26] [0, 1, 2, 3, 4, 5, 6, 7, 8, 9, 10, 11, 12, 13, 14, 15, 16, 17, 18, 19, 20, 21, 22, 23, 24, 25, 26] (c_X7_isTown l hZ (ad := ad) (σ := σ) q2) gX7_most_X7_isTown ⟨by decide +kernel, by decide +kernel, rfl⟩ rfl ⟨Nat.le_of_ble_eq_true rfl, Nat.le_of_ble_eq_true rfl⟩ ⟨rfl, rfl, rfl, by decide, rfl, rfl⟩ rfl rfl (Nat.le_of_ble_eq_true rfl) ⟨Nat.le_refl _, Nat.le_refl _⟩ dX7_most_1 rfl rfl ?_
  refine g_if_ne 7 9 C dX7_most_4 (by decide) rfl hF (fun hF => ?_) (fun hF => ?_)
  · refine g_iload_n 10 C dX7_most_9 rfl rfl rfl ?_
    obtain ⟨r3, q4, hF⟩ := sg_bndE hF
    refine g_callSi 13 C (w2 := (ww_X7TNR Y ad σ)) (As := [.int x2]) (st := []) (n0 := 1) [] [0, 1, 2, 3, 4, 5, 6, 7, 8, 9, 10, 11, 12, 13, 14, 15, 16, 17, 18, 19, 20, 21, 22, 23, 24, 25, 26] [0, 1, 2, 3, 4, 5, 6, 7, 8, 9, 10, 11, 12, 13, 14, 15, 16, 17, 18, 19, 20, 21, 22, 23, 24, 25, 26] (c_X7_isMonths l hZ (ad := ad) (σ := σ) q4) gX7_most_X7_isMonths ⟨by decide +kernel, by decide +kernel, rfl⟩ rfl ⟨Nat.le_of_ble_eq_true rfl, Nat.le_of_ble_eq_true rfl⟩ ⟨rfl, rfl, rfl, by decide, rfl, rfl⟩ rfl rfl (Nat.le_of_ble_eq_true rfl) ⟨Nat.le_refl _, Nat.le_refl _⟩ dX7_most_10 rfl rfl ?_
    refine g_if_ne 16 19 C dX7_most_13 (by decide) rfl hF (fun hF => ?_) (fun hF => ?_)
    · refine g_aload_n 20 C dX7_most_19 rfl rfl rfl ?_
      refine g_get 23 C (own := RX7) (C1 := RX7) (T := TX7) 0 0 (.ref (ad 1)) kiX7_most_X7 kfX7_most_10 rfl dX7_most_20 rfl rfl rfl (by decide) rfl ?_
      refine g_get 26 C (own := RX7) (C1 := RX3) (T := TX3) 1 4 (.ref (ad 5)) kiX7_most_X3 kfX7_most_148 rfl dX7_most_23 rfl rfl rfl (by decide) rfl ?_
      refine g_iload_n 27 C dX7_most_26 rfl rfl rfl ?_
      obtain ⟨h5, hF⟩ := sg_grdE hF
      refine g_ialdc 28 C 5 (x1.toNatClampNeg) (σ 5 x1.toNatClampNeg) dX7_most_27 rfl rfl rfl h5 rfl ?_
      refine g_if_gt 31 46 C dX7_most_28 (by decide) rfl hF (fun hF => ?_) (fun hF => ?_)
      · refine g_iconst 47 C 0 dX7_most_46 rfl (by decide) ?_
        obtain ⟨e1, e2⟩ := sg_pairE hF
        exact g_iret C hr rfl hQ hsz dX7_most_47 e1.symm (by rw [e2])
      · refine g_aload_n 32 C dX7_most_31 rfl rfl rfl ?_
        refine g_get 35 C (own := RX7) (C1 := RX7) (T := TX7) 0 0 (.ref (ad 1)) kiX7_most_X7 kfX7_most_10 rfl dX7_most_32 rfl rfl rfl (by decide) rfl ?_
        refine g_get 38 C (own := RX7) (C1 := RX3) (T := TX3) 1 6 (.ref (ad 9)) kiX7_most_X3 kfX7_most_69 rfl dX7_most_35 rfl rfl rfl (by decide) rfl ?_
        refine g_get 41 C (own := RX7) (C1 := RX1) (T := TX1) 9 0 (.int (σ 9 0)) kiX7_most_X1 kfX7_most_151 rfl dX7_most_38 rfl rfl rfl (by decide) rfl ?_
        refine g_bipush 43 C 8 dX7_most_41 rfl (by decide) ?_
        refine g_icmp_lt 46 48 C dX7_most_43 (by decide) rfl hF (fun hF => ?_) (fun hF => ?_)
        · refine g_bipush 50 C 20 dX7_most_48 rfl (by decide) ?_
          refine g_bipush 52 C 60 dX7_most_50 rfl (by decide) ?_
          refine g_aload_n 53 C dX7_most_52 rfl rfl rfl ?_
          refine g_get 56 C (own := RX7) (C1 := RX7) (T := TX7) 0 0 (.ref (ad 1)) kiX7_most_X7 kfX7_most_10 rfl dX7_most_53 rfl rfl rfl (by decide) rfl ?_
          refine g_get 59 C (own := RX7) (C1 := RX3) (T := TX3) 1 1 (.ref (ad 2)) kiX7_most_X3 kfX7_most_154 rfl dX7_most_56 rfl rfl rfl (by decide) rfl ?_
          refine g_iload_n 60 C dX7_most_59 rfl rfl rfl ?_
          refine g_ialdc 61 C 2 (x1.toNatClampNeg) (σ 2 x1.toNatClampNeg) dX7_most_60 rfl rfl rfl h5 rfl ?_
          refine g_isub 62 C dX7_most_61 rfl ?_
          refine g_mmin 65 C kmX7_most_157 ksX7_most_mmin knX7_most_math kcX7_most_mmin (Nat.le_of_ble_eq_true rfl) (Nat.le_of_ble_eq_true rfl) (Nat.le_refl _) (Nat.le_refl _) dX7_most_62 rfl ?_
          obtain ⟨y6, ey6, hF⟩ := sg_letE hF
          refine g_top ey6 ?_
          refine g_istore_n 66 C [(3, .int y6), (0, .ref (ad 0)), (1, .int x1), (2, .int x2)] dX7_most_65 rfl rfl (by decide) rfl ?_
          refine g_lv (lv2 := [(0, .ref (ad 0)), (1, .int x1), (2, .int x2), (3, .int y6)]) [1, 2, 3, 0] rfl ?_
          exact K66  1000 y6 σ hF
        · refine g_iconst 47 C 0 dX7_most_46 rfl (by decide) ?_
          obtain ⟨e1, e2⟩ := sg_pairE hF
          exact g_iret C hr rfl hQ hsz dX7_most_47 e1.symm (by rw [e2])
    · refine g_bipush 18 C (-2) dX7_most_16 rfl (by decide) ?_
      obtain ⟨e1, e2⟩ := sg_pairE hF
      exact g_iret C hr rfl hQ hsz dX7_most_18 e1.symm (by rw [e2])
  · refine g_iconst 8 C (-1) dX7_most_7 rfl (by decide) ?_
    obtain ⟨e1, e2⟩ := sg_pairE hF
    exact g_iret C hr rfl hQ hsz dX7_most_8 e1.symm (by rw [e2])
theorem kiX7_would_X7 : ∀ w ∈ u_ws RX7 TX7 10, w ∈ wsX7_would := by decide +kernel
theorem kfX7_would_19 : Cond.fieldLink RX7 19 "WeatherMinistry" "trial" "LWeatherMinistry$Realm;" ∈ wsX7_would := by decide +kernel
theorem kfX7_would_10 : Cond.fieldLink RX7 10 "WeatherMinistry" "now" "LWeatherMinistry$Realm;" ∈ wsX7_would := by decide +kernel
def f_X7_would_L36 (x1 : Int32) (x2 : Int32) (x3 : Int32) : Nat → Int32 → sg_S → Option (Int32 × sg_S)
  | 0, _, _ => none
  | nz + 1, z4, σz => (if z4 < x2 then sg_bnd2 (f_X3_pass  (sg_e1 28 σz)) (fun r10 τ8 => sg_let (sg_m1 28 13 σz τ8) (fun σ11 => f_X7_would_L36 x1 x2 x3 nz (z4 + 1) σ11)) else sg_bnd (f_X3_weatherOf x1 x3 (sg_e1 28 σz)) (fun r6 => some (r6, σz)))
def f_X7_would (x1 : Int32) (x2 : Int32) (x3 : Int32) (σ : sg_S) : Option (Int32 × sg_S) := sg_bnd (f_X7_isTown x1) (fun r1 => (if r1 = 0 then some ((-1), σ) else (if 0 ≤ x2 then (if 24 < x2 then some ((-2), σ) else sg_bnd (f_X3_copyFrom  (sg_e2 13 28 1 σ)) (fun τ3 => sg_let (sg_m2 28 13 1 13 σ τ3) (fun σ5 => f_X7_would_L36 x1 x2 x3 1000 0 σ5))) else some ((-2), σ))))
set_option maxHeartbeats 4000000 in
set_option maxRecDepth 100000 in
theorem c_X7_would (l : Launch) {D : va_G} {Y : Nat → ClassId} {Z : (Nat → Prop) → State → Heap → Prop} (hZ : sg_Zok Z) {ad : Nat → Nat} {σ : sg_S} {σ' : sg_S} {x1 x2 x3 : Int32} {r : Int32} (hF : f_X7_would x1 x2 x3 σ = some (r, σ')) : sg_MI l yX7_would wsX7_would 4 98 D Y Z [.ref (ad 0), .int x1, .int x2, .int x3] (ww_X7TNR Y ad σ) r (ww_X7TNR Y ad σ') := by
  intro sz
  refine sg_enter (own := RX7) (maxL := 5) (ret := (some .int)) (cc := cX7_would) (by decide +kernel) rfl rfl (Nat.le_of_ble_eq_true rfl) hZ ?_
  intro p e s m args below meth c C hr Q hQ hsz
  refine g_lv (lv2 := [(0, .ref (ad 0)), (1, .int x1), (2, .int x2), (3, .int x3)]) [0, 1, 2, 3] rfl ?_
  have K36 : ∀ (nz : Nat), ∀ (z4 : Int32) (σz : sg_S), f_X7_would_L36 x1 x2 x3 nz z4 σz = some (r, σ') → sg_G p l e ({ frames := 4, cells := 0, slots := 0, locals := 98 } : Room) s m args below meth c D (va_A (ww_X7TNR Y ad σ) s.heap.size) 5 0 0 Q 36 [(0, .ref (ad 0)), (1, .int x1), (2, .int x2), (3, .int x3), (4, .int z4)] [] (ww_X7TNR Y ad σz) := by
    intro nz
    induction nz with
    | zero =>
      intro z4 σz hF
      rw [f_X7_would_L36.eq_1] at hF
      exact nomatch hF
    | succ nz ih =>
      intro z4 σz hF
      rw [f_X7_would_L36.eq_2] at hF
      refine g_iload 38 C dX7_would_36 rfl rfl ?_
      refine g_iload_n 39 C dX7_would_38 rfl rfl rfl ?_
      refine g_icmp_ge 42 56 C dX7_would_39 (by decide) rfl hF (fun hF => ?_) (fun hF => ?_)
      · refine g_aload_n 57 C dX7_would_56 rfl rfl rfl ?_
        refine g_get 60 C (own := RX7) (C1 := RX7) (T := TX7) 0 2 (.ref (ad 28)) kiX7_would_X7 kfX7_would_19 rfl dX7_would_57 rfl rfl rfl (by decide) rfl ?_
        refine g_iload_n 61 C dX7_would_60 rfl rfl rfl ?_
        refine g_iload_n 62 C dX7_would_61 rfl rfl rfl ?_
        obtain ⟨r6, q7, hF⟩ := sg_bndE hF
        refine g_callVi 65 C (w2 := (ww_X7TNR Y ad σz)) (As := [.int x1, .int x3]) (st := []) (n0 := 2) (ci := 5) (q0 := 14) [14, 15, 16, 17, 18, 19, 20, 21, 22, 23, 24, 25, 26] [0, 1, 2, 3, 4, 5, 6, 7, 8, 9, 10, 11, 12, 13] [0, 1, 2, 3, 4, 5, 6, 7, 8, 9, 10, 11, 12, 13, 14, 15, 16, 17, 18, 19, 20, 21, 22, 23, 24, 25, 26] (c_X3_weatherOf l hZ (ad := (sg_e1 28 ad)) q7) gX7_would_X3_weatherOf ⟨rfl, by decide +kernel, by decide +kernel, rfl⟩ rfl ⟨Nat.le_of_ble_eq_true rfl, Nat.le_of_ble_eq_true rfl⟩ rfl rfl ⟨rfl, rfl, rfl, by decide, rfl, rfl⟩ rfl rfl (Nat.le_of_ble_eq_true rfl) ⟨Nat.le_refl _, Nat.le_refl _⟩ dX7_would_62 rfl rfl ?_
        obtain ⟨e1, e2⟩ := sg_pairE hF
        exact g_iret C hr rfl hQ hsz dX7_would_65 e1.symm (by rw [e2])
      · refine g_aload_n 43 C dX7_would_42 rfl rfl rfl ?_
        refine g_get 46 C (own := RX7) (C1 := RX7) (T := TX7) 0 2 (.ref (ad 28)) kiX7_would_X7 kfX7_would_19 rfl dX7_would_43 rfl rfl rfl (by decide) rfl ?_
        obtain ⟨r10, τ8, q9, hF⟩ := sg_bnd2E hF
        obtain ⟨σ11, eσ11, hF⟩ := sg_letE hF
        refine g_callVi 49 C (w2 := (ww_X7TNR Y ad σ11)) (As := []) (st := []) (n0 := 0) (ci := 5) (q0 := 14) [14, 15, 16, 17, 18, 19, 20, 21, 22, 23, 24, 25, 26] [0, 1, 2, 3, 4, 5, 6, 7, 8, 9, 10, 11, 12, 13] [0, 1, 2, 3, 4, 5, 6, 7, 8, 9, 10, 11, 12, 13, 14, 15, 16, 17, 18, 19, 20, 21, 22, 23, 24, 25, 26] (c_X3_pass l hZ (ad := (sg_e1 28 ad)) q9) gX7_would_X3_pass ⟨rfl, by decide +kernel, by decide +kernel, rfl⟩ rfl ⟨Nat.le_of_ble_eq_true rfl, Nat.le_of_ble_eq_true rfl⟩ rfl rfl (by subst eσ11; exact ⟨rfl, rfl, rfl, by decide, rfl, rfl⟩) rfl rfl (Nat.le_of_ble_eq_true rfl) ⟨Nat.le_refl _, Nat.le_refl _⟩ dX7_would_46 rfl rfl ?_
        refine g_pop 50 C dX7_would_49 rfl rfl ?_
        refine g_iinc 53 C 4 (z4 + 1) [(4, .int (z4 + 1)), (0, .ref (ad 0)), (1, .int x1), (2, .int x2), (3, .int x3)] dX7_would_50 rfl rfl rfl (by decide) rfl ?_
        refine g_goto 36 C dX7_would_53 (by decide) ?_
        refine g_lv (lv2 := [(0, .ref (ad 0)), (1, .int x1), (2, .int x2), (3, .int x3), (4, .int (z4 + 1))]) [1, 2, 3, 4, 0] rfl ?_
        exact ih (z4 + 1) σ11 hF
  rw [f_X7_would] at hF
  refine g_iload_n 1 C dX7_would_0 rfl rfl rfl ?_
  obtain ⟨r1, q2, hF⟩ := sg_bndE hF
  refine g_callSi 4 C (w2 := (ww_X7TNR Y ad σ)) (As := [.int x1]) (st := []) (n0 := 1) [] [0, 1, 2, 3, 4, 5, 6, 7, 8, 9, 10, 11, 12, 13, 14, 15, 16, 17, 18, 19, 20, 21, 22, 23, 24, 25, 26] [0, 1, 2, 3, 4, 5, 6, 7, 8, 9, 10, 11, 12, 13, 14, 15, 16, 17, 18, 19, 20, 21, 22, 23, 24, 25, 26] (c_X7_isTown l hZ (ad := ad) (σ := σ) q2) gX7_would_X7_isTown ⟨by decide +kernel, by decide +kernel, rfl⟩ rfl ⟨Nat.le_of_ble_eq_true rfl, Nat.le_of_ble_eq_true rfl⟩ ⟨rfl, rfl, rfl, by decide, rfl, rfl⟩ rfl rfl (Nat.le_of_ble_eq_true rfl) ⟨Nat.le_refl _, Nat.le_refl _⟩ dX7_would_1 rfl rfl ?_
  refine g_if_ne 7 9 C dX7_would_4 (by decide) rfl hF (fun hF => ?_) (fun hF => ?_)
  · refine g_iload_n 10 C dX7_would_9 rfl rfl rfl ?_
    refine g_if_lt 13 19 C dX7_would_10 (by decide) rfl hF (fun hF => ?_) (fun hF => ?_)
    · refine g_bipush 21 C (-2) dX7_would_19 rfl (by decide) ?_
      obtain ⟨e1, e2⟩ := sg_pairE hF
      exact g_iret C hr rfl hQ hsz dX7_would_21 e1.symm (by rw [e2])
    · refine g_iload_n 14 C dX7_would_13 rfl rfl rfl ?_
      refine g_bipush 16 C 24 dX7_would_14 rfl (by decide) ?_
      refine g_icmp_le 19 22 C dX7_would_16 (by decide) rfl hF (fun hF => ?_) (fun hF => ?_)
      · refine g_aload_n 23 C dX7_would_22 rfl rfl rfl ?_
        refine g_get 26 C (own := RX7) (C1 := RX7) (T := TX7) 0 2 (.ref (ad 28)) kiX7_would_X7 kfX7_would_19 rfl dX7_would_23 rfl rfl rfl (by decide) rfl ?_
        refine g_aload_n 27 C dX7_would_26 rfl rfl rfl ?_
        refine g_get 30 C (own := RX7) (C1 := RX7) (T := TX7) 0 0 (.ref (ad 1)) kiX7_would_X7 kfX7_would_10 rfl dX7_would_27 rfl rfl rfl (by decide) rfl ?_
        obtain ⟨τ3, q4, hF⟩ := sg_bndE hF
        obtain ⟨σ5, eσ5, hF⟩ := sg_letE hF
        refine g_callVv 33 C (w2 := (ww_X7TNR Y ad σ5)) (As := [.ref (ad 1)]) (st := []) (n0 := 1) (ci := 5) (q0 := 14) [14, 15, 16, 17, 18, 19, 20, 21, 22, 23, 24, 25, 26, 1, 2, 3, 4, 5, 6, 7, 8, 9, 10, 11, 12, 13] [0] [0, 14, 15, 16, 17, 18, 19, 20, 21, 22, 23, 24, 25, 26, 1, 2, 3, 4, 5, 6, 7, 8, 9, 10, 11, 12, 13] (c_X3_copyFrom l hZ (ad := (sg_e2 13 28 1 ad)) q4) gX7_would_X3_copyFrom ⟨rfl, by decide +kernel, by decide +kernel, rfl⟩ rfl ⟨Nat.le_of_ble_eq_true rfl, Nat.le_of_ble_eq_true rfl⟩ rfl rfl (by subst eσ5; exact ⟨rfl, rfl, rfl, by decide, rfl, rfl⟩) rfl rfl (Nat.le_of_ble_eq_true rfl) ⟨Nat.le_refl _, Nat.le_refl _⟩ dX7_would_30 rfl rfl ?_
        refine g_iconst 34 C 0 dX7_would_33 rfl (by decide) ?_
        refine g_istore 36 C [(4, .int 0), (0, .ref (ad 0)), (1, .int x1), (2, .int x2), (3, .int x3)] dX7_would_34 rfl (by decide) rfl ?_
        refine g_lv (lv2 := [(0, .ref (ad 0)), (1, .int x1), (2, .int x2), (3, .int x3), (4, .int 0)]) [1, 2, 3, 4, 0] rfl ?_
        exact K36  1000 0 σ5 hF
      · refine g_bipush 21 C (-2) dX7_would_19 rfl (by decide) ?_
        obtain ⟨e1, e2⟩ := sg_pairE hF
        exact g_iret C hr rfl hQ hsz dX7_would_21 e1.symm (by rw [e2])
  · refine g_iconst 8 C (-1) dX7_would_7 rfl (by decide) ?_
    obtain ⟨e1, e2⟩ := sg_pairE hF
    exact g_iret C hr rfl hQ hsz dX7_would_8 e1.symm (by rw [e2])
theorem kiX7_reason_X7 : ∀ w ∈ u_ws RX7 TX7 10, w ∈ wsX7_reason := by decide +kernel
theorem kfX7_reason_53 : Cond.fieldLink RX7 53 "WeatherMinistry" "latest" "LWeatherMinistry$Reason;" ∈ wsX7_reason := by decide +kernel
theorem kiX7_reason_X4 : ∀ w ∈ u_ws RX4 TX4 4, w ∈ wsX7_reason := by decide +kernel
theorem kfX7_reason_258 : Cond.fieldLink RX7 258 "WeatherMinistry$Reason" "number" "I" ∈ wsX7_reason := by decide +kernel
theorem kfX7_reason_264 : Cond.fieldLink RX7 264 "WeatherMinistry$Reason" "numberBehind" "I" ∈ wsX7_reason := by decide +kernel
theorem kfX7_reason_267 : Cond.fieldLink RX7 267 "WeatherMinistry$Reason" "detailBehind" "I" ∈ wsX7_reason := by decide +kernel
theorem kfX7_reason_261 : Cond.fieldLink RX7 261 "WeatherMinistry$Reason" "detail" "I" ∈ wsX7_reason := by decide +kernel
def f_X7_reason (x1 : Int32) (x2 : Int32) (σ : sg_S) : Option Int32 := (if 0 ≤ x1 then (if 1 < x1 then some ((-2)) else (if σ 14 0 = 0 then some ((-3)) else (if x1 = 0 then (if x2 = 0 then some (σ 14 0) else some (σ 14 1)) else (if σ 14 2 = 0 then some ((-6)) else (if x2 = 0 then some (σ 14 2) else some (σ 14 3)))))) else some ((-2)))
set_option maxHeartbeats 4000000 in
set_option maxRecDepth 100000 in
theorem c_X7_reason (l : Launch) {D : va_G} {Y : Nat → ClassId} {Z : (Nat → Prop) → State → Heap → Prop} (hZ : sg_Zok Z) {ad : Nat → Nat} {σ : sg_S} {x1 x2 : Int32} {r : Int32} (hF : f_X7_reason x1 x2 σ = some r) : sg_MI l yX7_reason wsX7_reason 0 0 D Y Z [.ref (ad 0), .int x1, .int x2] (ww_X7TL Y ad σ) r (ww_X7TL Y ad σ) := by
  intro sz
  refine sg_enter (own := RX7) (maxL := 3) (ret := (some .int)) (cc := cX7_reason) (by decide +kernel) rfl rfl (Nat.le_of_ble_eq_true rfl) hZ ?_
  intro p e s m args below meth c C hr Q hQ hsz
  refine g_lv (lv2 := [(0, .ref (ad 0)), (1, .int x1), (2, .int x2)]) [0, 1, 2] rfl ?_
  rw [f_X7_reason] at hF
  refine g_iload_n 1 C dX7_reason_0 rfl rfl rfl ?_
  refine g_if_lt 4 9 C dX7_reason_1 (by decide) rfl hF (fun hF => ?_) (fun hF => ?_)
  · refine g_bipush 11 C (-2) dX7_reason_9 rfl (by decide) ?_
    have e1 := sg_someE hF
    exact g_iret C hr rfl hQ hsz dX7_reason_11 e1.symm rfl
  · refine g_iload_n 5 C dX7_reason_4 rfl rfl rfl ?_
    refine g_iconst 6 C 1 dX7_reason_5 rfl (by decide) ?_
    refine g_icmp_le 9 12 C dX7_reason_6 (by decide) rfl hF (fun hF => ?_) (fun hF => ?_)
    · refine g_aload_n 13 C dX7_reason_12 rfl rfl rfl ?_
      refine g_get 16 C (own := RX7) (C1 := RX7) (T := TX7) 0 8 (.ref (ad 14)) kiX7_reason_X7 kfX7_reason_53 rfl dX7_reason_13 rfl rfl rfl (by decide) rfl ?_
      refine g_get 19 C (own := RX7) (C1 := RX4) (T := TX4) 1 0 (.int (σ 14 0)) kiX7_reason_X4 kfX7_reason_258 rfl dX7_reason_16 rfl rfl rfl (by decide) rfl ?_
      refine g_if_ne 22 25 C dX7_reason_19 (by decide) rfl hF (fun hF => ?_) (fun hF => ?_)
      · refine g_iload_n 26 C dX7_reason_25 rfl rfl rfl ?_
        refine g_if_ne 29 51 C dX7_reason_26 (by decide) rfl hF (fun hF => ?_) (fun hF => ?_)
        · refine g_aload_n 52 C dX7_reason_51 rfl rfl rfl ?_
          refine g_get 55 C (own := RX7) (C1 := RX7) (T := TX7) 0 8 (.ref (ad 14)) kiX7_reason_X7 kfX7_reason_53 rfl dX7_reason_52 rfl rfl rfl (by decide) rfl ?_
          refine g_get 58 C (own := RX7) (C1 := RX4) (T := TX4) 1 2 (.int (σ 14 2)) kiX7_reason_X4 kfX7_reason_264 rfl dX7_reason_55 rfl rfl rfl (by decide) rfl ?_
          refine g_if_ne 61 64 C dX7_reason_58 (by decide) rfl hF (fun hF => ?_) (fun hF => ?_)
          · refine g_iload_n 65 C dX7_reason_64 rfl rfl rfl ?_
            refine g_if_eq 68 78 C dX7_reason_65 (by decide) rfl hF (fun hF => ?_) (fun hF => ?_)
            · refine g_aload_n 79 C dX7_reason_78 rfl rfl rfl ?_
              refine g_get 82 C (own := RX7) (C1 := RX7) (T := TX7) 0 8 (.ref (ad 14)) kiX7_reason_X7 kfX7_reason_53 rfl dX7_reason_79 rfl rfl rfl (by decide) rfl ?_
              refine g_get 85 C (own := RX7) (C1 := RX4) (T := TX4) 1 2 (.int (σ 14 2)) kiX7_reason_X4 kfX7_reason_264 rfl dX7_reason_82 rfl rfl rfl (by decide) rfl ?_
              have e1 := sg_someE hF
              exact g_iret C hr rfl hQ hsz dX7_reason_85 e1.symm rfl
            · refine g_aload_n 69 C dX7_reason_68 rfl rfl rfl ?_
              refine g_get 72 C (own := RX7) (C1 := RX7) (T := TX7) 0 8 (.ref (ad 14)) kiX7_reason_X7 kfX7_reason_53 rfl dX7_reason_69 rfl rfl rfl (by decide) rfl ?_
              refine g_get 75 C (own := RX7) (C1 := RX4) (T := TX4) 1 3 (.int (σ 14 3)) kiX7_reason_X4 kfX7_reason_267 rfl dX7_reason_72 rfl rfl rfl (by decide) rfl ?_
              refine g_goto 85 C dX7_reason_75 (by decide) ?_
              have e1 := sg_someE hF
              exact g_iret C hr rfl hQ hsz dX7_reason_85 e1.symm rfl
          · refine g_bipush 63 C (-6) dX7_reason_61 rfl (by decide) ?_
            have e1 := sg_someE hF
            exact g_iret C hr rfl hQ hsz dX7_reason_63 e1.symm rfl
        · refine g_iload_n 30 C dX7_reason_29 rfl rfl rfl ?_
          refine g_if_eq 33 43 C dX7_reason_30 (by decide) rfl hF (fun hF => ?_) (fun hF => ?_)
          · refine g_aload_n 44 C dX7_reason_43 rfl rfl rfl ?_
            refine g_get 47 C (own := RX7) (C1 := RX7) (T := TX7) 0 8 (.ref (ad 14)) kiX7_reason_X7 kfX7_reason_53 rfl dX7_reason_44 rfl rfl rfl (by decide) rfl ?_
            refine g_get 50 C (own := RX7) (C1 := RX4) (T := TX4) 1 0 (.int (σ 14 0)) kiX7_reason_X4 kfX7_reason_258 rfl dX7_reason_47 rfl rfl rfl (by decide) rfl ?_
            have e1 := sg_someE hF
            exact g_iret C hr rfl hQ hsz dX7_reason_50 e1.symm rfl
          · refine g_aload_n 34 C dX7_reason_33 rfl rfl rfl ?_
            refine g_get 37 C (own := RX7) (C1 := RX7) (T := TX7) 0 8 (.ref (ad 14)) kiX7_reason_X7 kfX7_reason_53 rfl dX7_reason_34 rfl rfl rfl (by decide) rfl ?_
            refine g_get 40 C (own := RX7) (C1 := RX4) (T := TX4) 1 1 (.int (σ 14 1)) kiX7_reason_X4 kfX7_reason_261 rfl dX7_reason_37 rfl rfl rfl (by decide) rfl ?_
            refine g_goto 50 C dX7_reason_40 (by decide) ?_
            have e1 := sg_someE hF
            exact g_iret C hr rfl hQ hsz dX7_reason_50 e1.symm rfl
      · refine g_bipush 24 C (-3) dX7_reason_22 rfl (by decide) ?_
        have e1 := sg_someE hF
        exact g_iret C hr rfl hQ hsz dX7_reason_24 e1.symm rfl
    · refine g_bipush 11 C (-2) dX7_reason_9 rfl (by decide) ?_
      have e1 := sg_someE hF
      exact g_iret C hr rfl hQ hsz dX7_reason_11 e1.symm rfl
theorem kiX7_fault_X7 : ∀ w ∈ u_ws RX7 TX7 10, w ∈ wsX7_fault := by decide +kernel
theorem kfX7_fault_57 : Cond.fieldLink RX7 57 "WeatherMinistry" "faultPosition" "I" ∈ wsX7_fault := by decide +kernel
def f_X7_fault  (σ : sg_S) : Option Int32 := some (σ 0 9)
set_option maxHeartbeats 4000000 in
set_option maxRecDepth 100000 in
theorem c_X7_fault (l : Launch) {D : va_G} {Y : Nat → ClassId} {Z : (Nat → Prop) → State → Heap → Prop} (hZ : sg_Zok Z) {ad : Nat → Nat} {σ : sg_S} {r : Int32} (hF : f_X7_fault  σ = some r) : sg_MI l yX7_fault wsX7_fault 0 0 D Y Z [.ref (ad 0)] (ww_X7T Y ad σ) r (ww_X7T Y ad σ) := by
  intro sz
  refine sg_enter (own := RX7) (maxL := 1) (ret := (some .int)) (cc := cX7_fault) (by decide +kernel) rfl rfl (Nat.le_of_ble_eq_true rfl) hZ ?_
  intro p e s m args below meth c C hr Q hQ hsz
  refine g_lv (lv2 := [(0, .ref (ad 0))]) [0] rfl ?_
  rw [f_X7_fault] at hF
  refine g_aload_n 1 C dX7_fault_0 rfl rfl rfl ?_
  refine g_get 4 C (own := RX7) (C1 := RX7) (T := TX7) 0 9 (.int (σ 0 9)) kiX7_fault_X7 kfX7_fault_57 rfl dX7_fault_1 rfl rfl rfl (by decide) rfl ?_
  have e1 := sg_someE hF
  exact g_iret C hr rfl hQ hsz dX7_fault_4 e1.symm rfl
