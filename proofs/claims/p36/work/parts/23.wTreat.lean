theorem kiX6_copyFrom_X6 : ∀ w ∈ u_ws RX6 TX6 2, w ∈ wsX6_copyFrom := by decide +kernel
theorem kfX6_copyFrom_9 : Cond.fieldLink RX6 9 "WeatherMinistry$Treaties" "partners" "[I" ∈ wsX6_copyFrom := by decide +kernel
theorem kmX6_copyFrom_18 : Cond.methodLink RX6 18 arraycopyName ∈ wsX6_copyFrom := by decide +kernel
theorem kvX6_copyFrom_ac : Cond.native arraycopyName ∈ wsX6_copyFrom := by decide +kernel
theorem ksX6_copyFrom_ac : Cond.static arraycopyName ∈ wsX6_copyFrom := by decide +kernel
theorem knX6_copyFrom_sys : Cond.initialized "java/lang/System" ∈ wsX6_copyFrom := by decide +kernel
def f_X6_copyFrom  (σ : sg_S) : Option sg_S := sg_let (sg_ur σ 1 (va_cpy (σ 4) (σ 1) 0 0 5)) (fun σ1 => some σ1)
set_option maxHeartbeats 4000000 in
set_option maxRecDepth 100000 in
theorem c_X6_copyFrom (l : Launch) {D : va_G} {Y : Nat → ClassId} {Z : (Nat → Prop) → State → Heap → Prop} (hZ : sg_Zok Z) {ad : Nat → Nat} {σ : sg_S} {σ' : sg_S} (hF : f_X6_copyFrom  σ = some σ') : sg_MV l yX6_copyFrom wsX6_copyFrom 1 40 D Y Z [.ref (ad 0), .ref (ad 3)] (ww_X6c Y ad σ) (ww_X6c Y ad σ') := by
  intro sz
  refine sg_enter (own := RX6) (maxL := 2) (ret := none) (cc := cX6_copyFrom) (by decide +kernel) rfl rfl (Nat.le_of_ble_eq_true rfl) hZ ?_
  intro p e s m args below meth c C hr Q hQ hsz
  refine g_lv (lv2 := [(0, .ref (ad 0)), (1, .ref (ad 3))]) [0, 1] rfl ?_
  rw [f_X6_copyFrom] at hF
  refine g_aload_n 1 C dX6_copyFrom_0 rfl rfl rfl ?_
  refine g_get 4 C (own := RX6) (C1 := RX6) (T := TX6) 3 0 (.ref (ad 4)) kiX6_copyFrom_X6 kfX6_copyFrom_9 rfl dX6_copyFrom_1 rfl rfl rfl (by decide) rfl ?_
  refine g_iconst 5 C 0 dX6_copyFrom_4 rfl (by decide) ?_
  refine g_aload_n 6 C dX6_copyFrom_5 rfl rfl rfl ?_
  refine g_get 9 C (own := RX6) (C1 := RX6) (T := TX6) 0 0 (.ref (ad 1)) kiX6_copyFrom_X6 kfX6_copyFrom_9 rfl dX6_copyFrom_6 rfl rfl rfl (by decide) rfl ?_
  refine g_iconst 10 C 0 dX6_copyFrom_9 rfl (by decide) ?_
  refine g_iconst 11 C 5 dX6_copyFrom_10 rfl (by decide) ?_
  obtain ⟨σ1, eσ1, hF⟩ := sg_letE hF
  refine g_copyi 14 C (w2 := (ww_X6c Y ad σ1)) 4 1 kmX6_copyFrom_18 kvX6_copyFrom_ac ksX6_copyFrom_ac knX6_copyFrom_sys rfl rfl (by decide) (by decide) (by decide) (by decide) (by decide) (Nat.le_of_ble_eq_true rfl) (by decide) dX6_copyFrom_11 rfl (by rw [eσ1]; rfl) ?_
  have e2 := sg_someE hF
  exact g_vret C hr hQ hsz dX6_copyFrom_14 (by rw [e2])
theorem knX6_isBetween_X7 : Cond.initialized RX7 ∈ wsX6_isBetween := by decide +kernel
theorem ksX6_isBetween_X7_isTown : Cond.static yX7_isTown ∈ wsX6_isBetween := by decide +kernel
theorem kiX6_isBetween_X6 : ∀ w ∈ u_ws RX6 TX6 2, w ∈ wsX6_isBetween := by decide +kernel
theorem kfX6_isBetween_9 : Cond.fieldLink RX6 9 "WeatherMinistry$Treaties" "partners" "[I" ∈ wsX6_isBetween := by decide +kernel
def f_X6_isBetween (x1 : Int32) (x2 : Int32) (σ : sg_S) : Option Int32 := sg_bnd (f_X7_isTown x1) (fun r1 => (if r1 = 0 then some 0 else sg_bnd (f_X7_isTown x2) (fun r3 => (if r3 = 0 then some 0 else sg_grd (sg_in x1 5) ((if ((σ 1 x1.toNatClampNeg) >>> (x2 &&& 31)) &&& 1 = 1 then some 1 else some 0))))))
set_option maxHeartbeats 4000000 in
set_option maxRecDepth 100000 in
theorem c_X6_isBetween (l : Launch) {D : va_G} {Y : Nat → ClassId} {Z : (Nat → Prop) → State → Heap → Prop} (hZ : sg_Zok Z) {ad : Nat → Nat} {σ : sg_S} {x1 x2 : Int32} {r : Int32} (hF : f_X6_isBetween x1 x2 σ = some r) : sg_MI l yX6_isBetween wsX6_isBetween 1 20 D Y Z [.ref (ad 0), .int x1, .int x2] (ww_X6 Y ad σ) r (ww_X6 Y ad σ) := by
  intro sz
  refine sg_enter (own := RX6) (maxL := 3) (ret := (some .boolean)) (cc := cX6_isBetween) (by decide +kernel) rfl rfl (Nat.le_of_ble_eq_true rfl) hZ ?_
  intro p e s m args below meth c C hr Q hQ hsz
  have hN := hZ.2.2.2.1 _ _ _ C.2.2.2.2.2.2.2.2.1
  refine g_lv (lv2 := [(0, .ref (ad 0)), (1, .int x1), (2, .int x2)]) [0, 1, 2] rfl ?_
  rw [f_X6_isBetween] at hF
  refine g_iload_n 1 C dX6_isBetween_0 rfl rfl rfl ?_
  obtain ⟨r1, q2, hF⟩ := sg_bndE hF
  refine g_callNi 4 C (w2 := (ww_X6 Y ad σ)) (As := [.int x1]) (st := []) (n0 := 1) [] [0, 1, 2] [0, 1, 2] (c_X7_isTown l hZ (ad := ad) (σ := σ) q2) gX6_isBetween_X7_isTown_n24 hN.1 knX6_isBetween_X7 ksX6_isBetween_X7_isTown ⟨by decide +kernel, by decide +kernel, rfl⟩ rfl ⟨Nat.le_of_ble_eq_true rfl, Nat.le_of_ble_eq_true rfl⟩ ⟨rfl, rfl, rfl, by decide, rfl, rfl⟩ rfl rfl (Nat.le_of_ble_eq_true rfl) ⟨Nat.le_refl _, Nat.le_refl _⟩ dX6_isBetween_1 rfl rfl ?_
  refine g_if_eq 7 32 C dX6_isBetween_4 (by decide) rfl hF (fun hF => ?_) (fun hF => ?_)
  · refine g_iconst 33 C 0 dX6_isBetween_32 rfl (by decide) ?_
    have e1 := sg_someE hF
    exact g_iret C hr rfl hQ hsz dX6_isBetween_33 e1.symm rfl
  · refine g_iload_n 8 C dX6_isBetween_7 rfl rfl rfl ?_
    obtain ⟨r3, q4, hF⟩ := sg_bndE hF
    refine g_callNi 11 C (w2 := (ww_X6 Y ad σ)) (As := [.int x2]) (st := []) (n0 := 1) [] [0, 1, 2] [0, 1, 2] (c_X7_isTown l hZ (ad := ad) (σ := σ) q4) gX6_isBetween_X7_isTown_n24 hN.1 knX6_isBetween_X7 ksX6_isBetween_X7_isTown ⟨by decide +kernel, by decide +kernel, rfl⟩ rfl ⟨Nat.le_of_ble_eq_true rfl, Nat.le_of_ble_eq_true rfl⟩ ⟨rfl, rfl, rfl, by decide, rfl, rfl⟩ rfl rfl (Nat.le_of_ble_eq_true rfl) ⟨Nat.le_refl _, Nat.le_refl _⟩ dX6_isBetween_8 rfl rfl ?_
    refine g_if_eq 14 32 C dX6_isBetween_11 (by decide) rfl hF (fun hF => ?_) (fun hF => ?_)
    · refine g_iconst 33 C 0 dX6_isBetween_32 rfl (by decide) ?_
      have e1 := sg_someE hF
      exact g_iret C hr rfl hQ hsz dX6_isBetween_33 e1.symm rfl
    · refine g_aload_n 15 C dX6_isBetween_14 rfl rfl rfl ?_
      refine g_get 18 C (own := RX6) (C1 := RX6) (T := TX6) 0 0 (.ref (ad 1)) kiX6_isBetween_X6 kfX6_isBetween_9 rfl dX6_isBetween_15 rfl rfl rfl (by decide) rfl ?_
      refine g_iload_n 19 C dX6_isBetween_18 rfl rfl rfl ?_
      obtain ⟨h5, hF⟩ := sg_grdE hF
      refine g_ialdc 20 C 1 (x1.toNatClampNeg) (σ 1 x1.toNatClampNeg) dX6_isBetween_19 rfl rfl rfl h5 rfl ?_
      refine g_iload_n 21 C dX6_isBetween_20 rfl rfl rfl ?_
      refine g_ishr 22 C dX6_isBetween_21 rfl ?_
      refine g_iconst 23 C 1 dX6_isBetween_22 rfl (by decide) ?_
      refine g_iand 24 C dX6_isBetween_23 rfl ?_
      refine g_iconst 25 C 1 dX6_isBetween_24 rfl (by decide) ?_
      refine g_icmp_ne 28 32 C dX6_isBetween_25 (by decide) rfl hF (fun hF => ?_) (fun hF => ?_)
      · refine g_iconst 33 C 0 dX6_isBetween_32 rfl (by decide) ?_
        have e1 := sg_someE hF
        exact g_iret C hr rfl hQ hsz dX6_isBetween_33 e1.symm rfl
      · refine g_iconst 29 C 1 dX6_isBetween_28 rfl (by decide) ?_
        refine g_goto 33 C dX6_isBetween_29 (by decide) ?_
        have e1 := sg_someE hF
        exact g_iret C hr rfl hQ hsz dX6_isBetween_33 e1.symm rfl
theorem knX6_turn_X7 : Cond.initialized RX7 ∈ wsX6_turn := by decide +kernel
theorem ksX6_turn_X7_isTown : Cond.static yX7_isTown ∈ wsX6_turn := by decide +kernel
theorem kiX6_turn_X6 : ∀ w ∈ u_ws RX6 TX6 2, w ∈ wsX6_turn := by decide +kernel
theorem kfX6_turn_9 : Cond.fieldLink RX6 9 "WeatherMinistry$Treaties" "partners" "[I" ∈ wsX6_turn := by decide +kernel
def f_X6_turn (x1 : Int32) (x2 : Int32) (σ : sg_S) : Option sg_S := sg_bnd (f_X7_isTown x1) (fun r1 => (if r1 = 0 then some σ else sg_bnd (f_X7_isTown x2) (fun r3 => (if r3 = 0 then some σ else sg_grd (sg_in x1 5) (sg_let (sg_up σ 1 (x1.toNatClampNeg) ((σ 1 x1.toNatClampNeg) ^^^ (1 <<< (x2 &&& 31)))) (fun σ6 => sg_grd (sg_in x2 5) (sg_let (sg_up σ6 1 (x2.toNatClampNeg) ((σ6 1 x2.toNatClampNeg) ^^^ (1 <<< (x1 &&& 31)))) (fun σ8 => some σ8))))))))
set_option maxHeartbeats 4000000 in
set_option maxRecDepth 100000 in
theorem c_X6_turn (l : Launch) {D : va_G} {Y : Nat → ClassId} {Z : (Nat → Prop) → State → Heap → Prop} (hZ : sg_Zok Z) {ad : Nat → Nat} {σ : sg_S} {σ' : sg_S} {x1 x2 : Int32} (hF : f_X6_turn x1 x2 σ = some σ') : sg_MV l yX6_turn wsX6_turn 1 20 D Y Z [.ref (ad 0), .int x1, .int x2] (ww_X6 Y ad σ) (ww_X6 Y ad σ') := by
  intro sz
  refine sg_enter (own := RX6) (maxL := 3) (ret := none) (cc := cX6_turn) (by decide +kernel) rfl rfl (Nat.le_of_ble_eq_true rfl) hZ ?_
  intro p e s m args below meth c C hr Q hQ hsz
  have hN := hZ.2.2.2.1 _ _ _ C.2.2.2.2.2.2.2.2.1
  refine g_lv (lv2 := [(0, .ref (ad 0)), (1, .int x1), (2, .int x2)]) [0, 1, 2] rfl ?_
  rw [f_X6_turn] at hF
  refine g_iload_n 1 C dX6_turn_0 rfl rfl rfl ?_
  obtain ⟨r1, q2, hF⟩ := sg_bndE hF
  refine g_callNi 4 C (w2 := (ww_X6 Y ad σ)) (As := [.int x1]) (st := []) (n0 := 1) [] [0, 1, 2] [0, 1, 2] (c_X7_isTown l hZ (ad := ad) (σ := σ) q2) gX6_turn_X7_isTown_n24 hN.1 knX6_turn_X7 ksX6_turn_X7_isTown ⟨by decide +kernel, by decide +kernel, rfl⟩ rfl ⟨Nat.le_of_ble_eq_true rfl, Nat.le_of_ble_eq_true rfl⟩ ⟨rfl, rfl, rfl, by decide, rfl, rfl⟩ rfl rfl (Nat.le_of_ble_eq_true rfl) ⟨Nat.le_refl _, Nat.le_refl _⟩ dX6_turn_1 rfl rfl ?_
  refine g_if_eq 7 38 C dX6_turn_4 (by decide) rfl hF (fun hF => ?_) (fun hF => ?_)
  · have e2 := sg_someE hF
    exact g_vret C hr hQ hsz dX6_turn_38 (by rw [e2])
  · refine g_iload_n 8 C dX6_turn_7 rfl rfl rfl ?_
    obtain ⟨r3, q4, hF⟩ := sg_bndE hF
    refine g_callNi 11 C (w2 := (ww_X6 Y ad σ)) (As := [.int x2]) (st := []) (n0 := 1) [] [0, 1, 2] [0, 1, 2] (c_X7_isTown l hZ (ad := ad) (σ := σ) q4) gX6_turn_X7_isTown_n24 hN.1 knX6_turn_X7 ksX6_turn_X7_isTown ⟨by decide +kernel, by decide +kernel, rfl⟩ rfl ⟨Nat.le_of_ble_eq_true rfl, Nat.le_of_ble_eq_true rfl⟩ ⟨rfl, rfl, rfl, by decide, rfl, rfl⟩ rfl rfl (Nat.le_of_ble_eq_true rfl) ⟨Nat.le_refl _, Nat.le_refl _⟩ dX6_turn_8 rfl rfl ?_
    refine g_if_eq 14 38 C dX6_turn_11 (by decide) rfl hF (fun hF => ?_) (fun hF => ?_)
    · have e2 := sg_someE hF
      exact g_vret C hr hQ hsz dX6_turn_38 (by rw [e2])
    · refine g_aload_n 15 C dX6_turn_14 rfl rfl rfl ?_
      refine g_get 18 C (own := RX6) (C1 := RX6) (T := TX6) 0 0 (.ref (ad 1)) kiX6_turn_X6 kfX6_turn_9 rfl dX6_turn_15 rfl rfl rfl (by decide) rfl ?_
      refine g_iload_n 19 C dX6_turn_18 rfl rfl rfl ?_
      refine g_dup2 20 C dX6_turn_19 rfl rfl rfl ?_
      obtain ⟨h5, hF⟩ := sg_grdE hF
      refine g_ialdc 21 C 1 (x1.toNatClampNeg) (σ 1 x1.toNatClampNeg) dX6_turn_20 rfl rfl rfl h5 rfl ?_
      refine g_iconst 22 C 1 dX6_turn_21 rfl (by decide) ?_
      refine g_iload_n 23 C dX6_turn_22 rfl rfl rfl ?_
      refine g_ishl 24 C dX6_turn_23 rfl ?_
      refine g_ixor 25 C dX6_turn_24 rfl ?_
      obtain ⟨σ6, eσ6, hF⟩ := sg_letE hF
      refine g_iast 26 C (w2 := (ww_X6 Y ad σ6)) 1 dX6_turn_25 rfl rfl h5 (by rw [eσ6]; rfl) ?_
      refine g_aload_n 27 C dX6_turn_26 rfl rfl rfl ?_
      refine g_get 30 C (own := RX6) (C1 := RX6) (T := TX6) 0 0 (.ref (ad 1)) kiX6_turn_X6 kfX6_turn_9 rfl dX6_turn_27 rfl rfl rfl (by decide) rfl ?_
      refine g_iload_n 31 C dX6_turn_30 rfl rfl rfl ?_
      refine g_dup2 32 C dX6_turn_31 rfl rfl rfl ?_
      obtain ⟨h7, hF⟩ := sg_grdE hF
      refine g_ialdc 33 C 1 (x2.toNatClampNeg) (σ6 1 x2.toNatClampNeg) dX6_turn_32 rfl rfl rfl h7 rfl ?_
      refine g_iconst 34 C 1 dX6_turn_33 rfl (by decide) ?_
      refine g_iload_n 35 C dX6_turn_34 rfl rfl rfl ?_
      refine g_ishl 36 C dX6_turn_35 rfl ?_
      refine g_ixor 37 C dX6_turn_36 rfl ?_
      obtain ⟨σ8, eσ8, hF⟩ := sg_letE hF
      refine g_iast 38 C (w2 := (ww_X6 Y ad σ8)) 1 dX6_turn_37 rfl rfl h7 (by rw [eσ8]; rfl) ?_
      have e2 := sg_someE hF
      exact g_vret C hr hQ hsz dX6_turn_38 (by rw [e2])
theorem knX6_partnersOf_X7 : Cond.initialized RX7 ∈ wsX6_partnersOf := by decide +kernel
theorem ksX6_partnersOf_X7_isTown : Cond.static yX7_isTown ∈ wsX6_partnersOf := by decide +kernel
theorem kiX6_partnersOf_X6 : ∀ w ∈ u_ws RX6 TX6 2, w ∈ wsX6_partnersOf := by decide +kernel
theorem kfX6_partnersOf_9 : Cond.fieldLink RX6 9 "WeatherMinistry$Treaties" "partners" "[I" ∈ wsX6_partnersOf := by decide +kernel
def f_X6_partnersOf (x1 : Int32) (σ : sg_S) : Option Int32 := sg_bnd (f_X7_isTown x1) (fun r1 => (if r1 = 0 then some 0 else sg_grd (sg_in x1 5) (sg_bnd (f_J6_bitCount_0f7a4 (σ 1 x1.toNatClampNeg)) (fun r4 => some r4))))
set_option maxHeartbeats 4000000 in
set_option maxRecDepth 100000 in
theorem c_X6_partnersOf (l : Launch) {D : va_G} {Y : Nat → ClassId} {Z : (Nat → Prop) → State → Heap → Prop} (hZ : sg_Zok Z) {ad : Nat → Nat} {σ : sg_S} {x1 : Int32} {r : Int32} (hF : f_X6_partnersOf x1 σ = some r) : sg_MI l yX6_partnersOf wsX6_partnersOf 1 20 D Y Z [.ref (ad 0), .int x1] (ww_X6 Y ad σ) r (ww_X6 Y ad σ) := by
  intro sz
  refine sg_enter (own := RX6) (maxL := 2) (ret := (some .int)) (cc := cX6_partnersOf) (by decide +kernel) rfl rfl (Nat.le_of_ble_eq_true rfl) hZ ?_
  intro p e s m args below meth c C hr Q hQ hsz
  have hN := hZ.2.2.2.1 _ _ _ C.2.2.2.2.2.2.2.2.1
  refine g_lv (lv2 := [(0, .ref (ad 0)), (1, .int x1)]) [0, 1] rfl ?_
  rw [f_X6_partnersOf] at hF
  refine g_iload_n 1 C dX6_partnersOf_0 rfl rfl rfl ?_
  obtain ⟨r1, q2, hF⟩ := sg_bndE hF
  refine g_callNi 4 C (w2 := (ww_X6 Y ad σ)) (As := [.int x1]) (st := []) (n0 := 1) [] [0, 1, 2] [0, 1, 2] (c_X7_isTown l hZ (ad := ad) (σ := σ) q2) gX6_partnersOf_X7_isTown_n24 hN.1 knX6_partnersOf_X7 ksX6_partnersOf_X7_isTown ⟨by decide +kernel, by decide +kernel, rfl⟩ rfl ⟨Nat.le_of_ble_eq_true rfl, Nat.le_of_ble_eq_true rfl⟩ ⟨rfl, rfl, rfl, by decide, rfl, rfl⟩ rfl rfl (Nat.le_of_ble_eq_true rfl) ⟨Nat.le_refl _, Nat.le_refl _⟩ dX6_partnersOf_1 rfl rfl ?_
  refine g_if_eq 7 19 C dX6_partnersOf_4 (by decide) rfl hF (fun hF => ?_) (fun hF => ?_)
  · refine g_iconst 20 C 0 dX6_partnersOf_19 rfl (by decide) ?_
    have e1 := sg_someE hF
    exact g_iret C hr rfl hQ hsz dX6_partnersOf_20 e1.symm rfl
  · refine g_aload_n 8 C dX6_partnersOf_7 rfl rfl rfl ?_
    refine g_get 11 C (own := RX6) (C1 := RX6) (T := TX6) 0 0 (.ref (ad 1)) kiX6_partnersOf_X6 kfX6_partnersOf_9 rfl dX6_partnersOf_8 rfl rfl rfl (by decide) rfl ?_
    refine g_iload_n 12 C dX6_partnersOf_11 rfl rfl rfl ?_
    obtain ⟨h3, hF⟩ := sg_grdE hF
    refine g_ialdc 13 C 1 (x1.toNatClampNeg) (σ 1 x1.toNatClampNeg) dX6_partnersOf_12 rfl rfl rfl h3 rfl ?_
    obtain ⟨r4, q5, hF⟩ := sg_bndE hF
    refine g_callSi 16 C (w2 := (ww_X6 Y ad σ)) (As := [.int (σ 1 x1.toNatClampNeg)]) (st := []) (n0 := 1) [] [0, 1, 2] [0, 1, 2] (c_J6_bitCount_0f7a4 l hZ (ad := ad) (σ := σ) q5) gX6_partnersOf_J6_bitCount_0f7a4 ⟨by decide +kernel, by decide +kernel, rfl⟩ rfl ⟨Nat.le_of_ble_eq_true rfl, Nat.le_of_ble_eq_true rfl⟩ ⟨rfl, rfl, rfl, by decide, rfl, rfl⟩ rfl rfl (Nat.le_of_ble_eq_true rfl) ⟨Nat.le_refl _, Nat.le_refl _⟩ dX6_partnersOf_13 rfl rfl ?_
    refine g_goto 20 C dX6_partnersOf_16 (by decide) ?_
    have e1 := sg_someE hF
    exact g_iret C hr rfl hQ hsz dX6_partnersOf_20 e1.symm rfl
def f_X6_countAll_L4 (σ : sg_S) : Nat → Int32 → Int32 → Option Int32
  | 0, _, _ => none
  | nz + 1, z1, z2 => (if z2 < 5 then sg_bnd (f_X6_partnersOf z2 σ) (fun r1 => sg_let (z1 + r1) (fun y3 => f_X6_countAll_L4 σ nz y3 (z2 + 1))) else some (z1 / 2))
def f_X6_countAll  (σ : sg_S) : Option Int32 := f_X6_countAll_L4 σ 1000 0 0
set_option maxHeartbeats 4000000 in
set_option maxRecDepth 100000 in
theorem c_X6_countAll (l : Launch) {D : va_G} {Y : Nat → ClassId} {Z : (Nat → Prop) → State → Heap → Prop} (hZ : sg_Zok Z) {ad : Nat → Nat} {σ : sg_S} {r : Int32} (hF : f_X6_countAll  σ = some r) : sg_MI l yX6_countAll wsX6_countAll 2 41 D Y Z [.ref (ad 0)] (ww_X6 Y ad σ) r (ww_X6 Y ad σ) := by
  intro sz
  refine sg_enter (own := RX6) (maxL := 3) (ret := (some .int)) (cc := cX6_countAll) (by decide +kernel) rfl rfl (Nat.le_of_ble_eq_true rfl) hZ ?_
  intro p e s m args below meth c C hr Q hQ hsz
  refine g_lv (lv2 := [(0, .ref (ad 0))]) [0] rfl ?_
  have K4 : ∀ (nz : Nat), ∀ (z1 : Int32) (z2 : Int32), f_X6_countAll_L4 σ nz z1 z2 = some r → sg_G p l e ({ frames := 2, cells := 0, slots := 0, locals := 41 } : Room) s m args below meth c D (va_A (ww_X6 Y ad σ) s.heap.size) 3 0 0 Q 4 [(0, .ref (ad 0)), (1, .int z1), (2, .int z2)] [] (ww_X6 Y ad σ) := by
    intro nz
    induction nz with
    | zero =>
      intro z1 z2 hF
      rw [f_X6_countAll_L4.eq_1] at hF
      exact nomatch hF
    | succ nz ih =>
      intro z1 z2 hF
      rw [f_X6_countAll_L4.eq_2] at hF
      refine g_iload_n 5 C dX6_countAll_4 rfl rfl rfl ?_
      refine g_iconst 6 C 5 dX6_countAll_5 rfl (by decide) ?_
      refine g_icmp_ge 9 23 C dX6_countAll_6 (by decide) rfl hF (fun hF => ?_) (fun hF => ?_)
      · refine g_iload_n 24 C dX6_countAll_23 rfl rfl rfl ?_
        refine g_iconst 25 C 2 dX6_countAll_24 rfl (by decide) ?_
        refine g_idivc 26 C dX6_countAll_25 rfl (by decide) ?_
        have e1 := sg_someE hF
        exact g_iret C hr rfl hQ hsz dX6_countAll_26 e1.symm rfl
      · refine g_iload_n 10 C dX6_countAll_9 rfl rfl rfl ?_
        refine g_aload_n 11 C dX6_countAll_10 rfl rfl rfl ?_
        refine g_iload_n 12 C dX6_countAll_11 rfl rfl rfl ?_
        obtain ⟨r1, q2, hF⟩ := sg_bndE hF
        refine g_callVi 15 C (w2 := (ww_X6 Y ad σ)) (As := [.int z2]) (st := [.int z1]) (n0 := 1) (ci := 8) (q0 := 0) [0, 1, 2] [] [0, 1, 2] (c_X6_partnersOf l hZ (ad := ad) q2) gX6_countAll_X6_partnersOf ⟨rfl, by decide +kernel, by decide +kernel, rfl⟩ rfl ⟨Nat.le_of_ble_eq_true rfl, Nat.le_of_ble_eq_true rfl⟩ rfl rfl ⟨rfl, rfl, rfl, by decide, rfl, rfl⟩ rfl rfl (Nat.le_of_ble_eq_true rfl) ⟨Nat.le_refl _, Nat.le_refl _⟩ dX6_countAll_12 rfl rfl ?_
        refine g_iadd 16 C dX6_countAll_15 rfl ?_
        obtain ⟨y3, ey3, hF⟩ := sg_letE hF
        refine g_top ey3 ?_
        refine g_istore_n 17 C [(1, .int y3), (0, .ref (ad 0)), (2, .int z2)] dX6_countAll_16 rfl rfl (by decide) rfl ?_
        refine g_iinc 20 C 2 (z2 + 1) [(2, .int (z2 + 1)), (1, .int y3), (0, .ref (ad 0))] dX6_countAll_17 rfl rfl rfl (by decide) rfl ?_
        refine g_goto 4 C dX6_countAll_20 (by decide) ?_
        refine g_lv (lv2 := [(0, .ref (ad 0)), (1, .int y3), (2, .int (z2 + 1))]) [2, 1, 0] rfl ?_
        exact ih y3 (z2 + 1) hF
  rw [f_X6_countAll] at hF
  refine g_iconst 1 C 0 dX6_countAll_0 rfl (by decide) ?_
  refine g_istore_n 2 C [(1, .int 0), (0, .ref (ad 0))] dX6_countAll_1 rfl rfl (by decide) rfl ?_
  refine g_iconst 3 C 0 dX6_countAll_2 rfl (by decide) ?_
  refine g_istore_n 4 C [(2, .int 0), (1, .int 0), (0, .ref (ad 0))] dX6_countAll_3 rfl rfl (by decide) rfl ?_
  refine g_lv (lv2 := [(0, .ref (ad 0)), (1, .int 0), (2, .int 0)]) [2, 1, 0] rfl ?_
  exact K4  1000 0 0 hF
theorem kiX6_withPartners_X6 : ∀ w ∈ u_ws RX6 TX6 2, w ∈ wsX6_withPartners := by decide +kernel
theorem kfX6_withPartners_9 : Cond.fieldLink RX6 9 "WeatherMinistry$Treaties" "partners" "[I" ∈ wsX6_withPartners := by decide +kernel
def f_X6_withPartners_L4 (x1 : Int32) (σ : sg_S) : Nat → Int32 → Int32 → Option Int32
  | 0, _, _ => none
  | nz + 1, z2, z3 => (if z3 < 5 then (if (x1 >>> (z3 &&& 31)) &&& 1 = 1 then sg_grd (sg_in z3 5) (sg_let (z2 ||| (σ 1 z3.toNatClampNeg)) (fun y2 => f_X6_withPartners_L4 x1 σ nz y2 (z3 + 1))) else f_X6_withPartners_L4 x1 σ nz z2 (z3 + 1)) else some z2)
def f_X6_withPartners (x1 : Int32) (σ : sg_S) : Option Int32 := f_X6_withPartners_L4 x1 σ 1000 x1 0
set_option maxHeartbeats 4000000 in
set_option maxRecDepth 100000 in
theorem c_X6_withPartners (l : Launch) {D : va_G} {Y : Nat → ClassId} {Z : (Nat → Prop) → State → Heap → Prop} (hZ : sg_Zok Z) {ad : Nat → Nat} {σ : sg_S} {x1 : Int32} {r : Int32} (hF : f_X6_withPartners x1 σ = some r) : sg_MI l yX6_withPartners wsX6_withPartners 0 0 D Y Z [.ref (ad 0), .int x1] (ww_X6 Y ad σ) r (ww_X6 Y ad σ) := by
  intro sz
  refine sg_enter (own := RX6) (maxL := 4) (ret := (some .int)) (cc := cX6_withPartners) (by decide +kernel) rfl rfl (Nat.le_of_ble_eq_true rfl) hZ ?_
  intro p e s m args below meth c C hr Q hQ hsz
  refine g_lv (lv2 := [(0, .ref (ad 0)), (1, .int x1)]) [0, 1] rfl ?_
  have K4 : ∀ (nz : Nat), ∀ (z2 : Int32) (z3 : Int32), f_X6_withPartners_L4 x1 σ nz z2 z3 = some r → sg_G p l e ({ frames := 0, cells := 0, slots := 0, locals := 0 } : Room) s m args below meth c D (va_A (ww_X6 Y ad σ) s.heap.size) 4 0 0 Q 4 [(0, .ref (ad 0)), (1, .int x1), (2, .int z2), (3, .int z3)] [] (ww_X6 Y ad σ) := by
    intro nz
    induction nz with
    | zero =>
      intro z2 z3 hF
      rw [f_X6_withPartners_L4.eq_1] at hF
      exact nomatch hF
    | succ nz ih =>
      intro z2 z3 hF
      rw [f_X6_withPartners_L4.eq_2] at hF
      refine g_iload_n 5 C dX6_withPartners_4 rfl rfl rfl ?_
      refine g_iconst 6 C 5 dX6_withPartners_5 rfl (by decide) ?_
      refine g_icmp_ge 9 33 C dX6_withPartners_6 (by decide) rfl hF (fun hF => ?_) (fun hF => ?_)
      · refine g_iload_n 34 C dX6_withPartners_33 rfl rfl rfl ?_
        have e1 := sg_someE hF
        exact g_iret C hr rfl hQ hsz dX6_withPartners_34 e1.symm rfl
      · refine g_iload_n 10 C dX6_withPartners_9 rfl rfl rfl ?_
        refine g_iload_n 11 C dX6_withPartners_10 rfl rfl rfl ?_
        refine g_ishr 12 C dX6_withPartners_11 rfl ?_
        refine g_iconst 13 C 1 dX6_withPartners_12 rfl (by decide) ?_
        refine g_iand 14 C dX6_withPartners_13 rfl ?_
        refine g_iconst 15 C 1 dX6_withPartners_14 rfl (by decide) ?_
        refine g_icmp_ne 18 27 C dX6_withPartners_15 (by decide) rfl hF (fun hF => ?_) (fun hF => ?_)
        · refine g_iinc 30 C 3 (z3 + 1) [(3, .int (z3 + 1)), (0, .ref (ad 0)), (1, .int x1), (2, .int z2)] dX6_withPartners_27 rfl rfl rfl (by decide) rfl ?_
          refine g_goto 4 C dX6_withPartners_30 (by decide) ?_
          refine g_lv (lv2 := [(0, .ref (ad 0)), (1, .int x1), (2, .int z2), (3, .int (z3 + 1))]) [1, 2, 3, 0] rfl ?_
          exact ih z2 (z3 + 1) hF
        · refine g_iload_n 19 C dX6_withPartners_18 rfl rfl rfl ?_
          refine g_aload_n 20 C dX6_withPartners_19 rfl rfl rfl ?_
          refine g_get 23 C (own := RX6) (C1 := RX6) (T := TX6) 0 0 (.ref (ad 1)) kiX6_withPartners_X6 kfX6_withPartners_9 rfl dX6_withPartners_20 rfl rfl rfl (by decide) rfl ?_
          refine g_iload_n 24 C dX6_withPartners_23 rfl rfl rfl ?_
          obtain ⟨h1, hF⟩ := sg_grdE hF
          refine g_ialdc 25 C 1 (z3.toNatClampNeg) (σ 1 z3.toNatClampNeg) dX6_withPartners_24 rfl rfl rfl h1 rfl ?_
          refine g_ior 26 C dX6_withPartners_25 rfl ?_
          obtain ⟨y2, ey2, hF⟩ := sg_letE hF
          refine g_top ey2 ?_
          refine g_istore_n 27 C [(2, .int y2), (0, .ref (ad 0)), (1, .int x1), (3, .int z3)] dX6_withPartners_26 rfl rfl (by decide) rfl ?_
          refine g_iinc 30 C 3 (z3 + 1) [(3, .int (z3 + 1)), (2, .int y2), (0, .ref (ad 0)), (1, .int x1)] dX6_withPartners_27 rfl rfl rfl (by decide) rfl ?_
          refine g_goto 4 C dX6_withPartners_30 (by decide) ?_
          refine g_lv (lv2 := [(0, .ref (ad 0)), (1, .int x1), (2, .int y2), (3, .int (z3 + 1))]) [2, 3, 1, 0] rfl ?_
          exact ih y2 (z3 + 1) hF
  rw [f_X6_withPartners] at hF
  refine g_iload_n 1 C dX6_withPartners_0 rfl rfl rfl ?_
  refine g_istore_n 2 C [(2, .int x1), (0, .ref (ad 0)), (1, .int x1)] dX6_withPartners_1 rfl rfl (by decide) rfl ?_
  refine g_iconst 3 C 0 dX6_withPartners_2 rfl (by decide) ?_
  refine g_istore_n 4 C [(3, .int 0), (2, .int x1), (0, .ref (ad 0)), (1, .int x1)] dX6_withPartners_3 rfl rfl (by decide) rfl ?_
  refine g_lv (lv2 := [(0, .ref (ad 0)), (1, .int x1), (2, .int x1), (3, .int 0)]) [2, 3, 1, 0] rfl ?_
  exact K4  1000 x1 0 hF
def f_X6_ledToFrom_L6 (x1 : Int32) (σ : sg_S) : Nat → Int32 → Int32 → Option Int32
  | 0, _, _ => none
  | nz + 1, z2, z3 => (if z3 < 5 then sg_bnd (f_X6_withPartners z2 σ) (fun r4 => f_X6_ledToFrom_L6 x1 σ nz r4 (z3 + 1)) else sg_bnd (f_J6_bitCount_0f7a4 z2) (fun r2 => some (r2 - 1)))
def f_X6_ledToFrom (x1 : Int32) (σ : sg_S) : Option Int32 := sg_let (1 <<< (x1 &&& 31)) (fun y1 => f_X6_ledToFrom_L6 x1 σ 1000 y1 1)
set_option maxHeartbeats 4000000 in
set_option maxRecDepth 100000 in
theorem c_X6_ledToFrom (l : Launch) {D : va_G} {Y : Nat → ClassId} {Z : (Nat → Prop) → State → Heap → Prop} (hZ : sg_Zok Z) {ad : Nat → Nat} {σ : sg_S} {x1 : Int32} {r : Int32} (hF : f_X6_ledToFrom x1 σ = some r) : sg_MI l yX6_ledToFrom wsX6_ledToFrom 1 23 D Y Z [.ref (ad 0), .int x1] (ww_X6 Y ad σ) r (ww_X6 Y ad σ) := by
  intro sz
  refine sg_enter (own := RX6) (maxL := 4) (ret := (some .int)) (cc := cX6_ledToFrom) (by decide +kernel) rfl rfl (Nat.le_of_ble_eq_true rfl) hZ ?_
  intro p e s m args below meth c C hr Q hQ hsz
  refine g_lv (lv2 := [(0, .ref (ad 0)), (1, .int x1)]) [0, 1] rfl ?_
  have K6 : ∀ (nz : Nat), ∀ (z2 : Int32) (z3 : Int32), f_X6_ledToFrom_L6 x1 σ nz z2 z3 = some r → sg_G p l e ({ frames := 1, cells := 0, slots := 0, locals := 23 } : Room) s m args below meth c D (va_A (ww_X6 Y ad σ) s.heap.size) 4 0 0 Q 6 [(0, .ref (ad 0)), (2, .int z2), (3, .int z3)] [] (ww_X6 Y ad σ) := by
    intro nz
    induction nz with
    | zero =>
      intro z2 z3 hF
      rw [f_X6_ledToFrom_L6.eq_1] at hF
      exact nomatch hF
    | succ nz ih =>
      intro z2 z3 hF
      rw [f_X6_ledToFrom_L6.eq_2] at hF
      refine g_iload_n 7 C dX6_ledToFrom_6 rfl rfl rfl ?_
      refine g_iconst 8 C 5 dX6_ledToFrom_7 rfl (by decide) ?_
      refine g_icmp_ge 11 23 C dX6_ledToFrom_8 (by decide) rfl hF (fun hF => ?_) (fun hF => ?_)
      · refine g_iload_n 24 C dX6_ledToFrom_23 rfl rfl rfl ?_
        obtain ⟨r2, q3, hF⟩ := sg_bndE hF
        refine g_callSi 27 C (w2 := (ww_X6 Y ad σ)) (As := [.int z2]) (st := []) (n0 := 1) [] [0, 1, 2] [0, 1, 2] (c_J6_bitCount_0f7a4 l hZ (ad := ad) (σ := σ) q3) gX6_ledToFrom_J6_bitCount_0f7a4 ⟨by decide +kernel, by decide +kernel, rfl⟩ rfl ⟨Nat.le_of_ble_eq_true rfl, Nat.le_of_ble_eq_true rfl⟩ ⟨rfl, rfl, rfl, by decide, rfl, rfl⟩ rfl rfl (Nat.le_of_ble_eq_true rfl) ⟨Nat.le_refl _, Nat.le_refl _⟩ dX6_ledToFrom_24 rfl rfl ?_
        refine g_iconst 28 C 1 dX6_ledToFrom_27 rfl (by decide) ?_
        refine g_isub 29 C dX6_ledToFrom_28 rfl ?_
        have e1 := sg_someE hF
        exact g_iret C hr rfl hQ hsz dX6_ledToFrom_29 e1.symm rfl
      · refine g_aload_n 12 C dX6_ledToFrom_11 rfl rfl rfl ?_
        refine g_iload_n 13 C dX6_ledToFrom_12 rfl rfl rfl ?_
        obtain ⟨r4, q5, hF⟩ := sg_bndE hF
        refine g_callVi 16 C (w2 := (ww_X6 Y ad σ)) (As := [.int z2]) (st := []) (n0 := 1) (ci := 8) (q0 := 0) [0, 1, 2] [] [0, 1, 2] (c_X6_withPartners l hZ (ad := ad) q5) gX6_ledToFrom_X6_withPartners ⟨rfl, by decide +kernel, by decide +kernel, rfl⟩ rfl ⟨Nat.le_of_ble_eq_true rfl, Nat.le_of_ble_eq_true rfl⟩ rfl rfl ⟨rfl, rfl, rfl, by decide, rfl, rfl⟩ rfl rfl (Nat.le_of_ble_eq_true rfl) ⟨Nat.le_refl _, Nat.le_refl _⟩ dX6_ledToFrom_13 rfl rfl ?_
        refine g_istore_n 17 C [(2, .int r4), (0, .ref (ad 0)), (3, .int z3)] dX6_ledToFrom_16 rfl rfl (by decide) rfl ?_
        refine g_iinc 20 C 2 (z3 + 1) [(3, .int (z3 + 1)), (2, .int r4), (0, .ref (ad 0))] dX6_ledToFrom_17 rfl rfl rfl (by decide) rfl ?_
        refine g_goto 6 C dX6_ledToFrom_20 (by decide) ?_
        refine g_lv (lv2 := [(0, .ref (ad 0)), (2, .int r4), (3, .int (z3 + 1))]) [2, 1, 0] rfl ?_
        exact ih r4 (z3 + 1) hF
  rw [f_X6_ledToFrom] at hF
  refine g_iconst 1 C 1 dX6_ledToFrom_0 rfl (by decide) ?_
  refine g_iload_n 2 C dX6_ledToFrom_1 rfl rfl rfl ?_
  refine g_ishl 3 C dX6_ledToFrom_2 rfl ?_
  obtain ⟨y1, ey1, hF⟩ := sg_letE hF
  refine g_top ey1 ?_
  refine g_istore_n 4 C [(2, .int y1), (0, .ref (ad 0)), (1, .int x1)] dX6_ledToFrom_3 rfl rfl (by decide) rfl ?_
  refine g_iconst 5 C 1 dX6_ledToFrom_4 rfl (by decide) ?_
  refine g_istore_n 6 C [(3, .int 1), (2, .int y1), (0, .ref (ad 0)), (1, .int x1)] dX6_ledToFrom_5 rfl rfl (by decide) rfl ?_
  refine g_lv (lv2 := [(0, .ref (ad 0)), (2, .int y1), (3, .int 1)]) [2, 1, 0] rfl ?_
  exact K6  1000 y1 1 hF
def f_X6_stepsBetween_L7 (x1 : Int32) (x2 : Int32) (σ : sg_S) : Nat → Int32 → Int32 → Option Int32
  | 0, _, _ => none
  | nz + 1, z3, z4 => (if z4 < 5 then (if (z3 >>> (x2 &&& 31)) &&& 1 = 1 then some z4 else sg_bnd (f_X6_withPartners z3 σ) (fun r2 => f_X6_stepsBetween_L7 x1 x2 σ nz r2 (z4 + 1))) else some ((-6)))
def f_X6_stepsBetween (x1 : Int32) (x2 : Int32) (σ : sg_S) : Option Int32 := sg_let (1 <<< (x1 &&& 31)) (fun y1 => f_X6_stepsBetween_L7 x1 x2 σ 1000 y1 0)
set_option maxHeartbeats 4000000 in
set_option maxRecDepth 100000 in
theorem c_X6_stepsBetween (l : Launch) {D : va_G} {Y : Nat → ClassId} {Z : (Nat → Prop) → State → Heap → Prop} (hZ : sg_Zok Z) {ad : Nat → Nat} {σ : sg_S} {x1 x2 : Int32} {r : Int32} (hF : f_X6_stepsBetween x1 x2 σ = some r) : sg_MI l yX6_stepsBetween wsX6_stepsBetween 1 23 D Y Z [.ref (ad 0), .int x1, .int x2] (ww_X6 Y ad σ) r (ww_X6 Y ad σ) := by
  intro sz
  refine sg_enter (own := RX6) (maxL := 5) (ret := (some .int)) (cc := cX6_stepsBetween) (by decide +kernel) rfl rfl (Nat.le_of_ble_eq_true rfl) hZ ?_
  intro p e s m args below meth c C hr Q hQ hsz
  refine g_lv (lv2 := [(0, .ref (ad 0)), (1, .int x1), (2, .int x2)]) [0, 1, 2] rfl ?_
  have K7 : ∀ (nz : Nat), ∀ (z3 : Int32) (z4 : Int32), f_X6_stepsBetween_L7 x1 x2 σ nz z3 z4 = some r → sg_G p l e ({ frames := 1, cells := 0, slots := 0, locals := 23 } : Room) s m args below meth c D (va_A (ww_X6 Y ad σ) s.heap.size) 5 0 0 Q 7 [(0, .ref (ad 0)), (2, .int x2), (3, .int z3), (4, .int z4)] [] (ww_X6 Y ad σ) := by
    intro nz
    induction nz with
    | zero =>
      intro z3 z4 hF
      rw [f_X6_stepsBetween_L7.eq_1] at hF
      exact nomatch hF
    | succ nz ih =>
      intro z3 z4 hF
      rw [f_X6_stepsBetween_L7.eq_2] at hF
      refine g_iload 9 C dX6_stepsBetween_7 rfl rfl ?_
      refine g_iconst 10 C 5 dX6_stepsBetween_9 rfl (by decide) ?_
      refine g_icmp_ge 13 37 C dX6_stepsBetween_10 (by decide) rfl hF (fun hF => ?_) (fun hF => ?_)
      · refine g_bipush 39 C (-6) dX6_stepsBetween_37 rfl (by decide) ?_
        have e1 := sg_someE hF
        exact g_iret C hr rfl hQ hsz dX6_stepsBetween_39 e1.symm rfl
      · refine g_iload_n 14 C dX6_stepsBetween_13 rfl rfl rfl ?_
        refine g_iload_n 15 C dX6_stepsBetween_14 rfl rfl rfl ?_
        refine g_ishr 16 C dX6_stepsBetween_15 rfl ?_
        refine g_iconst 17 C 1 dX6_stepsBetween_16 rfl (by decide) ?_
        refine g_iand 18 C dX6_stepsBetween_17 rfl ?_
        refine g_iconst 19 C 1 dX6_stepsBetween_18 rfl (by decide) ?_
        refine g_icmp_ne 22 25 C dX6_stepsBetween_19 (by decide) rfl hF (fun hF => ?_) (fun hF => ?_)
        · refine g_aload_n 26 C dX6_stepsBetween_25 rfl rfl rfl ?_
          refine g_iload_n 27 C dX6_stepsBetween_26 rfl rfl rfl ?_
          obtain ⟨r2, q3, hF⟩ := sg_bndE hF
          refine g_callVi 30 C (w2 := (ww_X6 Y ad σ)) (As := [.int z3]) (st := []) (n0 := 1) (ci := 8) (q0 := 0) [0, 1, 2] [] [0, 1, 2] (c_X6_withPartners l hZ (ad := ad) q3) gX6_stepsBetween_X6_withPartners ⟨rfl, by decide +kernel, by decide +kernel, rfl⟩ rfl ⟨Nat.le_of_ble_eq_true rfl, Nat.le_of_ble_eq_true rfl⟩ rfl rfl ⟨rfl, rfl, rfl, by decide, rfl, rfl⟩ rfl rfl (Nat.le_of_ble_eq_true rfl) ⟨Nat.le_refl _, Nat.le_refl _⟩ dX6_stepsBetween_27 rfl rfl ?_
          refine g_istore_n 31 C [(3, .int r2), (0, .ref (ad 0)), (2, .int x2), (4, .int z4)] dX6_stepsBetween_30 rfl rfl (by decide) rfl ?_
          refine g_iinc 34 C 3 (z4 + 1) [(4, .int (z4 + 1)), (3, .int r2), (0, .ref (ad 0)), (2, .int x2)] dX6_stepsBetween_31 rfl rfl rfl (by decide) rfl ?_
          refine g_goto 7 C dX6_stepsBetween_34 (by decide) ?_
          refine g_lv (lv2 := [(0, .ref (ad 0)), (2, .int x2), (3, .int r2), (4, .int (z4 + 1))]) [2, 3, 1, 0] rfl ?_
          exact ih r2 (z4 + 1) hF
        · refine g_iload 24 C dX6_stepsBetween_22 rfl rfl ?_
          have e1 := sg_someE hF
          exact g_iret C hr rfl hQ hsz dX6_stepsBetween_24 e1.symm rfl
  rw [f_X6_stepsBetween] at hF
  refine g_iconst 1 C 1 dX6_stepsBetween_0 rfl (by decide) ?_
  refine g_iload_n 2 C dX6_stepsBetween_1 rfl rfl rfl ?_
  refine g_ishl 3 C dX6_stepsBetween_2 rfl ?_
  obtain ⟨y1, ey1, hF⟩ := sg_letE hF
  refine g_top ey1 ?_
  refine g_istore_n 4 C [(3, .int y1), (0, .ref (ad 0)), (1, .int x1), (2, .int x2)] dX6_stepsBetween_3 rfl rfl (by decide) rfl ?_
  refine g_iconst 5 C 0 dX6_stepsBetween_4 rfl (by decide) ?_
  refine g_istore 7 C [(4, .int 0), (3, .int y1), (0, .ref (ad 0)), (1, .int x1), (2, .int x2)] dX6_stepsBetween_5 rfl (by decide) rfl ?_
  refine g_lv (lv2 := [(0, .ref (ad 0)), (2, .int x2), (3, .int y1), (4, .int 0)]) [2, 4, 1, 0] rfl ?_
  exact K7  1000 y1 0 hF
def f_X6_halvedBySteps (x1 : Int32) (x2 : Int32) (x3 : Int32) (σ : sg_S) : Option Int32 := sg_bnd (f_X6_stepsBetween x1 x3 σ) (fun r1 => (if r1 = (-6) then some 0 else some (x2 >>> (r1 &&& 31))))
set_option maxHeartbeats 4000000 in
set_option maxRecDepth 100000 in
theorem c_X6_halvedBySteps (l : Launch) {D : va_G} {Y : Nat → ClassId} {Z : (Nat → Prop) → State → Heap → Prop} (hZ : sg_Zok Z) {ad : Nat → Nat} {σ : sg_S} {x1 x2 x3 : Int32} {r : Int32} (hF : f_X6_halvedBySteps x1 x2 x3 σ = some r) : sg_MI l yX6_halvedBySteps wsX6_halvedBySteps 2 47 D Y Z [.ref (ad 0), .int x1, .int x2, .int x3] (ww_X6 Y ad σ) r (ww_X6 Y ad σ) := by
  intro sz
  refine sg_enter (own := RX6) (maxL := 5) (ret := (some .int)) (cc := cX6_halvedBySteps) (by decide +kernel) rfl rfl (Nat.le_of_ble_eq_true rfl) hZ ?_
  intro p e s m args below meth c C hr Q hQ hsz
  refine g_lv (lv2 := [(0, .ref (ad 0)), (1, .int x1), (2, .int x2), (3, .int x3)]) [0, 1, 2, 3] rfl ?_
  rw [f_X6_halvedBySteps] at hF
  refine g_aload_n 1 C dX6_halvedBySteps_0 rfl rfl rfl ?_
  refine g_iload_n 2 C dX6_halvedBySteps_1 rfl rfl rfl ?_
  refine g_iload_n 3 C dX6_halvedBySteps_2 rfl rfl rfl ?_
  obtain ⟨r1, q2, hF⟩ := sg_bndE hF
  refine g_callVi 6 C (w2 := (ww_X6 Y ad σ)) (As := [.int x1, .int x3]) (st := []) (n0 := 2) (ci := 8) (q0 := 0) [0, 1, 2] [] [0, 1, 2] (c_X6_stepsBetween l hZ (ad := ad) q2) gX6_halvedBySteps_X6_stepsBetween ⟨rfl, by decide +kernel, by decide +kernel, rfl⟩ rfl ⟨Nat.le_of_ble_eq_true rfl, Nat.le_of_ble_eq_true rfl⟩ rfl rfl ⟨rfl, rfl, rfl, by decide, rfl, rfl⟩ rfl rfl (Nat.le_of_ble_eq_true rfl) ⟨Nat.le_refl _, Nat.le_refl _⟩ dX6_halvedBySteps_3 rfl rfl ?_
  refine g_istore 8 C [(4, .int r1), (0, .ref (ad 0)), (1, .int x1), (2, .int x2), (3, .int x3)] dX6_halvedBySteps_6 rfl (by decide) rfl ?_
  refine g_iload 10 C dX6_halvedBySteps_8 rfl rfl ?_
  refine g_bipush 12 C (-6) dX6_halvedBySteps_10 rfl (by decide) ?_
  refine g_icmp_ne 15 19 C dX6_halvedBySteps_12 (by decide) rfl hF (fun hF => ?_) (fun hF => ?_)
  · refine g_iload_n 20 C dX6_halvedBySteps_19 rfl rfl rfl ?_
    refine g_iload 22 C dX6_halvedBySteps_20 rfl rfl ?_
    refine g_ishr 23 C dX6_halvedBySteps_22 rfl ?_
    have e1 := sg_someE hF
    exact g_iret C hr rfl hQ hsz dX6_halvedBySteps_23 e1.symm rfl
  · refine g_iconst 16 C 0 dX6_halvedBySteps_15 rfl (by decide) ?_
    refine g_goto 23 C dX6_halvedBySteps_16 (by decide) ?_
    have e1 := sg_someE hF
    exact g_iret C hr rfl hQ hsz dX6_halvedBySteps_23 e1.symm rfl
theorem kiX6_spread_X6 : ∀ w ∈ u_ws RX6 TX6 2, w ∈ wsX6_spread := by decide +kernel
theorem kfX6_spread_15 : Cond.fieldLink RX6 15 "WeatherMinistry$Treaties" "drizzled" "[I" ∈ wsX6_spread := by decide +kernel
theorem kfX6_spread_9 : Cond.fieldLink RX6 9 "WeatherMinistry$Treaties" "partners" "[I" ∈ wsX6_spread := by decide +kernel
def f_X6_spread_L59 (x1 : Int32) (x2 : Int32) (κ31 : Int32 → sg_S → Option sg_S) (κ39 : Int32 → Int32 → sg_S → Option sg_S) : Nat → Int32 → Int32 → Int32 → Int32 → sg_S → Option sg_S
  | 0, _, _, _, _, _ => none
  | nz + 1, z3, z4, z5, z6, σz => (if z6 < 5 then sg_grd (sg_in z4 5) ((if ((σz 1 z4.toNatClampNeg) >>> (z6 &&& 31)) &&& 1 = 1 then sg_grd (sg_in z6 5) ((if σz 2 z6.toNatClampNeg < z5 then sg_let (sg_up σz 2 (z6.toNatClampNeg) z5) (fun σ5 => f_X6_spread_L59 x1 x2 κ31 κ39 nz z3 z4 z5 (z6 + 1) σ5) else f_X6_spread_L59 x1 x2 κ31 κ39 nz z3 z4 z5 (z6 + 1) σz)) else f_X6_spread_L59 x1 x2 κ31 κ39 nz z3 z4 z5 (z6 + 1) σz)) else κ39 z3 (z4 + 1) σz)
def f_X6_spread_L39 (x1 : Int32) (x2 : Int32) (κ31 : Int32 → sg_S → Option sg_S) : Nat → Int32 → Int32 → sg_S → Option sg_S
  | 0, _, _, _ => none
  | nz + 1, z3, z4, σz => (if z4 < 5 then sg_grd (sg_in z4 5) (sg_let ((σz 2 z4.toNatClampNeg) / 2) (fun y2 => f_X6_spread_L59 x1 x2 κ31 (fun z3' z4' σz' => f_X6_spread_L39 x1 x2 κ31 nz z3' z4' σz') 1000 z3 z4 y2 0 σz)) else κ31 (z3 + 1) σz)
def f_X6_spread_L31 (x1 : Int32) (x2 : Int32) : Nat → Int32 → sg_S → Option sg_S
  | 0, _, _ => none
  | nz + 1, z3, σz => (if z3 < 5 then f_X6_spread_L39 x1 x2 (fun z3' σz' => f_X6_spread_L31 x1 x2 nz z3' σz') 1000 z3 0 σz else some σz)
def f_X6_spread_L2 (x1 : Int32) (x2 : Int32) : Nat → Int32 → sg_S → Option sg_S
  | 0, _, _ => none
  | nz + 1, z3, σz => (if z3 < 5 then (if z3 = x1 then sg_grd (sg_in z3 5) (sg_let (sg_up σz 2 (z3.toNatClampNeg) x2) (fun σ9 => f_X6_spread_L2 x1 x2 nz (z3 + 1) σ9)) else sg_grd (sg_in z3 5) (sg_let (sg_up σz 2 (z3.toNatClampNeg) 0) (fun σ7 => f_X6_spread_L2 x1 x2 nz (z3 + 1) σ7))) else f_X6_spread_L31 x1 x2 1000 1 σz)
def f_X6_spread (x1 : Int32) (x2 : Int32) (σ : sg_S) : Option sg_S := f_X6_spread_L2 x1 x2 1000 0 σ
set_option maxHeartbeats 4000000 in
set_option maxRecDepth 100000 in
theorem c_X6_spread (l : Launch) {D : va_G} {Y : Nat → ClassId} {Z : (Nat → Prop) → State → Heap → Prop} (hZ : sg_Zok Z) {ad : Nat → Nat} {σ : sg_S} {σ' : sg_S} {x1 x2 : Int32} (hF : f_X6_spread x1 x2 σ = some σ') : sg_MV l yX6_spread wsX6_spread 0 0 D Y Z [.ref (ad 0), .int x1, .int x2] (ww_X6 Y ad σ) (ww_X6 Y ad σ') := by
  intro sz
  refine sg_enter (own := RX6) (maxL := 7) (ret := none) (cc := cX6_spread) (by decide +kernel) rfl rfl (Nat.le_of_ble_eq_true rfl) hZ ?_
  intro p e s m args below meth c C hr Q hQ hsz
  refine g_lv (lv2 := [(0, .ref (ad 0)), (1, .int x1), (2, .int x2)]) [0, 1, 2] rfl ?_
  have K59 : ∀ (κ31 : Int32 → sg_S → Option sg_S), (∀ (z3 : Int32) (σz : sg_S), κ31 z3 σz = some σ' → sg_G p l e ({ frames := 0, cells := 0, slots := 0, locals := 0 } : Room) s m args below meth c D (va_A (ww_X6 Y ad σ) s.heap.size) 7 0 0 Q 31 [(0, .ref (ad 0)), (3, .int z3)] [] (ww_X6 Y ad σz)) → ∀ (κ39 : Int32 → Int32 → sg_S → Option sg_S), (∀ (z3 : Int32) (z4 : Int32) (σz : sg_S), κ39 z3 z4 σz = some σ' → sg_G p l e ({ frames := 0, cells := 0, slots := 0, locals := 0 } : Room) s m args below meth c D (va_A (ww_X6 Y ad σ) s.heap.size) 7 0 0 Q 39 [(0, .ref (ad 0)), (3, .int z3), (4, .int z4)] [] (ww_X6 Y ad σz)) → ∀ (nz : Nat), ∀ (z3 : Int32) (z4 : Int32) (z5 : Int32) (z6 : Int32) (σz : sg_S), f_X6_spread_L59 x1 x2 κ31 κ39 nz z3 z4 z5 z6 σz = some σ' → sg_G p l e ({ frames := 0, cells := 0, slots := 0, locals := 0 } : Room) s m args below meth c D (va_A (ww_X6 Y ad σ) s.heap.size) 7 0 0 Q 59 [(0, .ref (ad 0)), (3, .int z3), (4, .int z4), (5, .int z5), (6, .int z6)] [] (ww_X6 Y ad σz) := by
    intro κ31 hκ31 κ39 hκ39 nz
    induction nz with
    | zero =>
      intro z3 z4 z5 z6 σz hF
      rw [f_X6_spread_L59.eq_1] at hF
      exact nomatch hF
    | succ nz ih =>
      intro z3 z4 z5 z6 σz hF
      rw [f_X6_spread_L59.eq_2] at hF
      refine g_iload 61 C dX6_spread_59 rfl rfl ?_
      refine g_iconst 62 C 5 dX6_spread_61 rfl (by decide) ?_
      refine g_icmp_ge 65 108 C dX6_spread_62 (by decide) rfl hF (fun hF => ?_) (fun hF => ?_)
      · refine g_iinc 111 C 2 (z4 + 1) [(4, .int (z4 + 1)), (0, .ref (ad 0)), (3, .int z3), (5, .int z5), (6, .int z6)] dX6_spread_108 rfl rfl rfl (by decide) rfl ?_
        refine g_goto 39 C dX6_spread_111 (by decide) ?_
        refine g_lv (lv2 := [(0, .ref (ad 0)), (3, .int z3), (4, .int (z4 + 1))]) [1, 2, 0] rfl ?_
        exact hκ39 z3 (z4 + 1) σz hF
      · refine g_aload_n 66 C dX6_spread_65 rfl rfl rfl ?_
        refine g_get 69 C (own := RX6) (C1 := RX6) (T := TX6) 0 0 (.ref (ad 1)) kiX6_spread_X6 kfX6_spread_9 rfl dX6_spread_66 rfl rfl rfl (by decide) rfl ?_
        refine g_iload 71 C dX6_spread_69 rfl rfl ?_
        obtain ⟨h3, hF⟩ := sg_grdE hF
        refine g_ialdc 72 C 1 (z4.toNatClampNeg) (σz 1 z4.toNatClampNeg) dX6_spread_71 rfl rfl rfl h3 rfl ?_
        refine g_iload 74 C dX6_spread_72 rfl rfl ?_
        refine g_ishr 75 C dX6_spread_74 rfl ?_
        refine g_iconst 76 C 1 dX6_spread_75 rfl (by decide) ?_
        refine g_iand 77 C dX6_spread_76 rfl ?_
        refine g_iconst 78 C 1 dX6_spread_77 rfl (by decide) ?_
        refine g_icmp_ne 81 102 C dX6_spread_78 (by decide) rfl hF (fun hF => ?_) (fun hF => ?_)
        · refine g_iinc 105 C 4 (z6 + 1) [(6, .int (z6 + 1)), (0, .ref (ad 0)), (3, .int z3), (4, .int z4), (5, .int z5)] dX6_spread_102 rfl rfl rfl (by decide) rfl ?_
          refine g_goto 59 C dX6_spread_105 (by decide) ?_
          refine g_lv (lv2 := [(0, .ref (ad 0)), (3, .int z3), (4, .int z4), (5, .int z5), (6, .int (z6 + 1))]) [1, 2, 3, 4, 0] rfl ?_
          exact ih z3 z4 z5 (z6 + 1) σz hF
        · refine g_aload_n 82 C dX6_spread_81 rfl rfl rfl ?_
          refine g_get 85 C (own := RX6) (C1 := RX6) (T := TX6) 0 1 (.ref (ad 2)) kiX6_spread_X6 kfX6_spread_15 rfl dX6_spread_82 rfl rfl rfl (by decide) rfl ?_
          refine g_iload 87 C dX6_spread_85 rfl rfl ?_
          obtain ⟨h4, hF⟩ := sg_grdE hF
          refine g_ialdc 88 C 2 (z6.toNatClampNeg) (σz 2 z6.toNatClampNeg) dX6_spread_87 rfl rfl rfl h4 rfl ?_
          refine g_iload 90 C dX6_spread_88 rfl rfl ?_
          refine g_icmp_ge 93 102 C dX6_spread_90 (by decide) rfl hF (fun hF => ?_) (fun hF => ?_)
          · refine g_iinc 105 C 4 (z6 + 1) [(6, .int (z6 + 1)), (0, .ref (ad 0)), (3, .int z3), (4, .int z4), (5, .int z5)] dX6_spread_102 rfl rfl rfl (by decide) rfl ?_
            refine g_goto 59 C dX6_spread_105 (by decide) ?_
            refine g_lv (lv2 := [(0, .ref (ad 0)), (3, .int z3), (4, .int z4), (5, .int z5), (6, .int (z6 + 1))]) [1, 2, 3, 4, 0] rfl ?_
            exact ih z3 z4 z5 (z6 + 1) σz hF
          · refine g_aload_n 94 C dX6_spread_93 rfl rfl rfl ?_
            refine g_get 97 C (own := RX6) (C1 := RX6) (T := TX6) 0 1 (.ref (ad 2)) kiX6_spread_X6 kfX6_spread_15 rfl dX6_spread_94 rfl rfl rfl (by decide) rfl ?_
            refine g_iload 99 C dX6_spread_97 rfl rfl ?_
            refine g_iload 101 C dX6_spread_99 rfl rfl ?_
            obtain ⟨σ5, eσ5, hF⟩ := sg_letE hF
            refine g_iast 102 C (w2 := (ww_X6 Y ad σ5)) 2 dX6_spread_101 rfl rfl h4 (by rw [eσ5]; rfl) ?_
            refine g_iinc 105 C 4 (z6 + 1) [(6, .int (z6 + 1)), (0, .ref (ad 0)), (3, .int z3), (4, .int z4), (5, .int z5)] dX6_spread_102 rfl rfl rfl (by decide) rfl ?_
            refine g_goto 59 C dX6_spread_105 (by decide) ?_
            refine g_lv (lv2 := [(0, .ref (ad 0)), (3, .int z3), (4, .int z4), (5, .int z5), (6, .int (z6 + 1))]) [1, 2, 3, 4, 0] rfl ?_
            exact ih z3 z4 z5 (z6 + 1) σ5 hF
  have K39 : ∀ (κ31 : Int32 → sg_S → Option sg_S), (∀ (z3 : Int32) (σz : sg_S), κ31 z3 σz = some σ' → sg_G p l e ({ frames := 0, cells := 0, slots := 0, locals := 0 } : Room) s m args below meth c D (va_A (ww_X6 Y ad σ) s.heap.size) 7 0 0 Q 31 [(0, .ref (ad 0)), (3, .int z3)] [] (ww_X6 Y ad σz)) → ∀ (nz : Nat), ∀ (z3 : Int32) (z4 : Int32) (σz : sg_S), f_X6_spread_L39 x1 x2 κ31 nz z3 z4 σz = some σ' → sg_G p l e ({ frames := 0, cells := 0, slots := 0, locals := 0 } : Room) s m args below meth c D (va_A (ww_X6 Y ad σ) s.heap.size) 7 0 0 Q 39 [(0, .ref (ad 0)), (3, .int z3), (4, .int z4)] [] (ww_X6 Y ad σz) := by
    intro κ31 hκ31 nz
    induction nz with
    | zero =>
      intro z3 z4 σz hF
      rw [f_X6_spread_L39.eq_1] at hF
      exact nomatch hF
    | succ nz ih =>
      intro z3 z4 σz hF
      rw [f_X6_spread_L39.eq_2] at hF
      refine g_iload 41 C dX6_spread_39 rfl rfl ?_
      refine g_iconst 42 C 5 dX6_spread_41 rfl (by decide) ?_
      refine g_icmp_ge 45 114 C dX6_spread_42 (by decide) rfl hF (fun hF => ?_) (fun hF => ?_)
      · refine g_iinc 117 C 1 (z3 + 1) [(3, .int (z3 + 1)), (0, .ref (ad 0)), (4, .int z4)] dX6_spread_114 rfl rfl rfl (by decide) rfl ?_
        refine g_goto 31 C dX6_spread_117 (by decide) ?_
        refine g_lv (lv2 := [(0, .ref (ad 0)), (3, .int (z3 + 1))]) [1, 0] rfl ?_
        exact hκ31 (z3 + 1) σz hF
      · refine g_aload_n 46 C dX6_spread_45 rfl rfl rfl ?_
        refine g_get 49 C (own := RX6) (C1 := RX6) (T := TX6) 0 1 (.ref (ad 2)) kiX6_spread_X6 kfX6_spread_15 rfl dX6_spread_46 rfl rfl rfl (by decide) rfl ?_
        refine g_iload 51 C dX6_spread_49 rfl rfl ?_
        obtain ⟨h1, hF⟩ := sg_grdE hF
        refine g_ialdc 52 C 2 (z4.toNatClampNeg) (σz 2 z4.toNatClampNeg) dX6_spread_51 rfl rfl rfl h1 rfl ?_
        refine g_iconst 53 C 2 dX6_spread_52 rfl (by decide) ?_
        refine g_idivc 54 C dX6_spread_53 rfl (by decide) ?_
        obtain ⟨y2, ey2, hF⟩ := sg_letE hF
        refine g_top ey2 ?_
        refine g_istore 56 C [(5, .int y2), (0, .ref (ad 0)), (3, .int z3), (4, .int z4)] dX6_spread_54 rfl (by decide) rfl ?_
        refine g_iconst 57 C 0 dX6_spread_56 rfl (by decide) ?_
        refine g_istore 59 C [(6, .int 0), (5, .int y2), (0, .ref (ad 0)), (3, .int z3), (4, .int z4)] dX6_spread_57 rfl (by decide) rfl ?_
        refine g_lv (lv2 := [(0, .ref (ad 0)), (3, .int z3), (4, .int z4), (5, .int y2), (6, .int 0)]) [2, 3, 4, 1, 0] rfl ?_
        exact K59 κ31 hκ31 (fun z3' z4' σz' => f_X6_spread_L39 x1 x2 κ31 nz z3' z4' σz') ih 1000 z3 z4 y2 0 σz hF
  have K31 : ∀ (nz : Nat), ∀ (z3 : Int32) (σz : sg_S), f_X6_spread_L31 x1 x2 nz z3 σz = some σ' → sg_G p l e ({ frames := 0, cells := 0, slots := 0, locals := 0 } : Room) s m args below meth c D (va_A (ww_X6 Y ad σ) s.heap.size) 7 0 0 Q 31 [(0, .ref (ad 0)), (3, .int z3)] [] (ww_X6 Y ad σz) := by
    intro nz
    induction nz with
    | zero =>
      intro z3 σz hF
      rw [f_X6_spread_L31.eq_1] at hF
      exact nomatch hF
    | succ nz ih =>
      intro z3 σz hF
      rw [f_X6_spread_L31.eq_2] at hF
      refine g_iload_n 32 C dX6_spread_31 rfl rfl rfl ?_
      refine g_iconst 33 C 5 dX6_spread_32 rfl (by decide) ?_
      refine g_icmp_ge 36 120 C dX6_spread_33 (by decide) rfl hF (fun hF => ?_) (fun hF => ?_)
      · have e2 := sg_someE hF
        exact g_vret C hr hQ hsz dX6_spread_120 (by rw [e2])
      · refine g_iconst 37 C 0 dX6_spread_36 rfl (by decide) ?_
        refine g_istore 39 C [(4, .int 0), (0, .ref (ad 0)), (3, .int z3)] dX6_spread_37 rfl (by decide) rfl ?_
        refine g_lv (lv2 := [(0, .ref (ad 0)), (3, .int z3), (4, .int 0)]) [1, 2, 0] rfl ?_
        exact K39 (fun z3' σz' => f_X6_spread_L31 x1 x2 nz z3' σz') ih 1000 z3 0 σz hF
  have K2 : ∀ (nz : Nat), ∀ (z3 : Int32) (σz : sg_S), f_X6_spread_L2 x1 x2 nz z3 σz = some σ' → sg_G p l e ({ frames := 0, cells := 0, slots := 0, locals := 0 } : Room) s m args below meth c D (va_A (ww_X6 Y ad σ) s.heap.size) 7 0 0 Q 2 [(0, .ref (ad 0)), (1, .int x1), (2, .int x2), (3, .int z3)] [] (ww_X6 Y ad σz) := by
    intro nz
    induction nz with
    | zero =>
      intro z3 σz hF
      rw [f_X6_spread_L2.eq_1] at hF
      exact nomatch hF
    | succ nz ih =>
      intro z3 σz hF
      rw [f_X6_spread_L2.eq_2] at hF
      refine g_iload_n 3 C dX6_spread_2 rfl rfl rfl ?_
      refine g_iconst 4 C 5 dX6_spread_3 rfl (by decide) ?_
      refine g_icmp_ge 7 29 C dX6_spread_4 (by decide) rfl hF (fun hF => ?_) (fun hF => ?_)
      · refine g_iconst 30 C 1 dX6_spread_29 rfl (by decide) ?_
        refine g_istore_n 31 C [(3, .int 1), (0, .ref (ad 0)), (1, .int x1), (2, .int x2)] dX6_spread_30 rfl rfl (by decide) rfl ?_
        refine g_lv (lv2 := [(0, .ref (ad 0)), (3, .int 1)]) [1, 0] rfl ?_
        exact K31  1000 1 σz hF
      · refine g_aload_n 8 C dX6_spread_7 rfl rfl rfl ?_
        refine g_get 11 C (own := RX6) (C1 := RX6) (T := TX6) 0 1 (.ref (ad 2)) kiX6_spread_X6 kfX6_spread_15 rfl dX6_spread_8 rfl rfl rfl (by decide) rfl ?_
        refine g_iload_n 12 C dX6_spread_11 rfl rfl rfl ?_
        refine g_iload_n 13 C dX6_spread_12 rfl rfl rfl ?_
        refine g_iload_n 14 C dX6_spread_13 rfl rfl rfl ?_
        refine g_icmp_ne 17 21 C dX6_spread_14 (by decide) rfl hF (fun hF => ?_) (fun hF => ?_)
        · refine g_iconst 22 C 0 dX6_spread_21 rfl (by decide) ?_
          obtain ⟨h6, hF⟩ := sg_grdE hF
          obtain ⟨σ7, eσ7, hF⟩ := sg_letE hF
          refine g_iast 23 C (w2 := (ww_X6 Y ad σ7)) 2 dX6_spread_22 rfl rfl h6 (by rw [eσ7]; rfl) ?_
          refine g_iinc 26 C 3 (z3 + 1) [(3, .int (z3 + 1)), (0, .ref (ad 0)), (1, .int x1), (2, .int x2)] dX6_spread_23 rfl rfl rfl (by decide) rfl ?_
          refine g_goto 2 C dX6_spread_26 (by decide) ?_
          refine g_lv (lv2 := [(0, .ref (ad 0)), (1, .int x1), (2, .int x2), (3, .int (z3 + 1))]) [1, 2, 3, 0] rfl ?_
          exact ih (z3 + 1) σ7 hF
        · refine g_iload_n 18 C dX6_spread_17 rfl rfl rfl ?_
          refine g_goto 22 C dX6_spread_18 (by decide) ?_
          obtain ⟨h8, hF⟩ := sg_grdE hF
          obtain ⟨σ9, eσ9, hF⟩ := sg_letE hF
          refine g_iast 23 C (w2 := (ww_X6 Y ad σ9)) 2 dX6_spread_22 rfl rfl h8 (by rw [eσ9]; rfl) ?_
          refine g_iinc 26 C 3 (z3 + 1) [(3, .int (z3 + 1)), (0, .ref (ad 0)), (1, .int x1), (2, .int x2)] dX6_spread_23 rfl rfl rfl (by decide) rfl ?_
          refine g_goto 2 C dX6_spread_26 (by decide) ?_
          refine g_lv (lv2 := [(0, .ref (ad 0)), (1, .int x1), (2, .int x2), (3, .int (z3 + 1))]) [1, 2, 3, 0] rfl ?_
          exact ih (z3 + 1) σ9 hF
  rw [f_X6_spread] at hF
  refine g_iconst 1 C 0 dX6_spread_0 rfl (by decide) ?_
  refine g_istore_n 2 C [(3, .int 0), (0, .ref (ad 0)), (1, .int x1), (2, .int x2)] dX6_spread_1 rfl rfl (by decide) rfl ?_
  refine g_lv (lv2 := [(0, .ref (ad 0)), (1, .int x1), (2, .int x2), (3, .int 0)]) [1, 2, 3, 0] rfl ?_
  exact K2  1000 0 σ hF
