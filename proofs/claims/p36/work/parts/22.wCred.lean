theorem kiX1_copyFrom_X1 : ∀ w ∈ u_ws RX1 TX1 4, w ∈ wsX1_copyFrom := by decide +kernel
theorem kfX1_copyFrom_9 : Cond.fieldLink RX1 9 "WeatherMinistry$Credits" "count" "I" ∈ wsX1_copyFrom := by decide +kernel
theorem kfX1_copyFrom_15 : Cond.fieldLink RX1 15 "WeatherMinistry$Credits" "towns" "[I" ∈ wsX1_copyFrom := by decide +kernel
theorem kmX1_copyFrom_25 : Cond.methodLink RX1 25 arraycopyName ∈ wsX1_copyFrom := by decide +kernel
theorem kvX1_copyFrom_ac : Cond.native arraycopyName ∈ wsX1_copyFrom := by decide +kernel
theorem ksX1_copyFrom_ac : Cond.static arraycopyName ∈ wsX1_copyFrom := by decide +kernel
theorem knX1_copyFrom_sys : Cond.initialized "java/lang/System" ∈ wsX1_copyFrom := by decide +kernel
theorem kfX1_copyFrom_19 : Cond.fieldLink RX1 19 "WeatherMinistry$Credits" "hours" "[I" ∈ wsX1_copyFrom := by decide +kernel
theorem kfX1_copyFrom_22 : Cond.fieldLink RX1 22 "WeatherMinistry$Credits" "ends" "[I" ∈ wsX1_copyFrom := by decide +kernel
def f_X1_copyFrom  (σ : sg_S) : Option sg_S := sg_let (sg_up σ 0 0 (σ 4 0)) (fun σ1 => sg_let (sg_ur σ1 1 (va_cpy (σ1 5) (σ1 1) 0 0 8)) (fun σ2 => sg_let (sg_ur σ2 2 (va_cpy (σ2 6) (σ2 2) 0 0 8)) (fun σ3 => sg_let (sg_ur σ3 3 (va_cpy (σ3 7) (σ3 3) 0 0 8)) (fun σ4 => some σ4))))
set_option maxHeartbeats 4000000 in
set_option maxRecDepth 100000 in
theorem c_X1_copyFrom (l : Launch) {D : va_G} {Y : Nat → ClassId} {Z : (Nat → Prop) → State → Heap → Prop} (hZ : sg_Zok Z) {ad : Nat → Nat} {σ : sg_S} {σ' : sg_S} (hF : f_X1_copyFrom  σ = some σ') : sg_MV l yX1_copyFrom wsX1_copyFrom 1 40 D Y Z [.ref (ad 0), .ref (ad 4)] (ww_X1c Y ad σ) (ww_X1c Y ad σ') := by
  intro sz
  refine sg_enter (own := RX1) (maxL := 2) (ret := none) (cc := cX1_copyFrom) (by decide +kernel) rfl rfl (Nat.le_of_ble_eq_true rfl) hZ ?_
  intro p e s m args below meth c C hr Q hQ hsz
  refine g_lv (lv2 := [(0, .ref (ad 0)), (1, .ref (ad 4))]) [0, 1] rfl ?_
  rw [f_X1_copyFrom] at hF
  refine g_aload_n 1 C dX1_copyFrom_0 rfl rfl rfl ?_
  refine g_aload_n 2 C dX1_copyFrom_1 rfl rfl rfl ?_
  refine g_get 5 C (own := RX1) (C1 := RX1) (T := TX1) 4 0 (.int (σ 4 0)) kiX1_copyFrom_X1 kfX1_copyFrom_9 rfl dX1_copyFrom_2 rfl rfl rfl (by decide) rfl ?_
  obtain ⟨σ1, eσ1, hF⟩ := sg_letE hF
  refine g_put 8 C (own := RX1) (C1 := RX1) (T := TX1) (w2 := (ww_X1c Y ad σ1)) 0 0 tyX1 tyX1_ok nmX1 kiX1_copyFrom_X1 kfX1_copyFrom_9 rfl rfl (ty := .int) (by decide) rfl rfl (sg_blt rfl) dX1_copyFrom_5 rfl rfl rfl (by decide) (by rw [eσ1]; rfl) ?_
  refine g_aload_n 9 C dX1_copyFrom_8 rfl rfl rfl ?_
  refine g_get 12 C (own := RX1) (C1 := RX1) (T := TX1) 4 1 (.ref (ad 5)) kiX1_copyFrom_X1 kfX1_copyFrom_15 rfl dX1_copyFrom_9 rfl rfl rfl (by decide) rfl ?_
  refine g_iconst 13 C 0 dX1_copyFrom_12 rfl (by decide) ?_
  refine g_aload_n 14 C dX1_copyFrom_13 rfl rfl rfl ?_
  refine g_get 17 C (own := RX1) (C1 := RX1) (T := TX1) 0 1 (.ref (ad 1)) kiX1_copyFrom_X1 kfX1_copyFrom_15 rfl dX1_copyFrom_14 rfl rfl rfl (by decide) rfl ?_
  refine g_iconst 18 C 0 dX1_copyFrom_17 rfl (by decide) ?_
  refine g_bipush 20 C 8 dX1_copyFrom_18 rfl (by decide) ?_
  obtain ⟨σ2, eσ2, hF⟩ := sg_letE hF
  refine g_copyi 23 C (w2 := (ww_X1c Y ad σ2)) 5 1 kmX1_copyFrom_25 kvX1_copyFrom_ac ksX1_copyFrom_ac knX1_copyFrom_sys rfl rfl (by decide) (by decide) (by decide) (by decide) (by decide) (Nat.le_of_ble_eq_true rfl) (by decide) dX1_copyFrom_20 rfl (by rw [eσ2]; rfl) ?_
  refine g_aload_n 24 C dX1_copyFrom_23 rfl rfl rfl ?_
  refine g_get 27 C (own := RX1) (C1 := RX1) (T := TX1) 4 2 (.ref (ad 6)) kiX1_copyFrom_X1 kfX1_copyFrom_19 rfl dX1_copyFrom_24 rfl rfl rfl (by decide) rfl ?_
  refine g_iconst 28 C 0 dX1_copyFrom_27 rfl (by decide) ?_
  refine g_aload_n 29 C dX1_copyFrom_28 rfl rfl rfl ?_
  refine g_get 32 C (own := RX1) (C1 := RX1) (T := TX1) 0 2 (.ref (ad 2)) kiX1_copyFrom_X1 kfX1_copyFrom_19 rfl dX1_copyFrom_29 rfl rfl rfl (by decide) rfl ?_
  refine g_iconst 33 C 0 dX1_copyFrom_32 rfl (by decide) ?_
  refine g_bipush 35 C 8 dX1_copyFrom_33 rfl (by decide) ?_
  obtain ⟨σ3, eσ3, hF⟩ := sg_letE hF
  refine g_copyi 38 C (w2 := (ww_X1c Y ad σ3)) 6 2 kmX1_copyFrom_25 kvX1_copyFrom_ac ksX1_copyFrom_ac knX1_copyFrom_sys rfl rfl (by decide) (by decide) (by decide) (by decide) (by decide) (Nat.le_of_ble_eq_true rfl) (by decide) dX1_copyFrom_35 rfl (by rw [eσ3]; rfl) ?_
  refine g_aload_n 39 C dX1_copyFrom_38 rfl rfl rfl ?_
  refine g_get 42 C (own := RX1) (C1 := RX1) (T := TX1) 4 3 (.ref (ad 7)) kiX1_copyFrom_X1 kfX1_copyFrom_22 rfl dX1_copyFrom_39 rfl rfl rfl (by decide) rfl ?_
  refine g_iconst 43 C 0 dX1_copyFrom_42 rfl (by decide) ?_
  refine g_aload_n 44 C dX1_copyFrom_43 rfl rfl rfl ?_
  refine g_get 47 C (own := RX1) (C1 := RX1) (T := TX1) 0 3 (.ref (ad 3)) kiX1_copyFrom_X1 kfX1_copyFrom_22 rfl dX1_copyFrom_44 rfl rfl rfl (by decide) rfl ?_
  refine g_iconst 48 C 0 dX1_copyFrom_47 rfl (by decide) ?_
  refine g_bipush 50 C 8 dX1_copyFrom_48 rfl (by decide) ?_
  obtain ⟨σ4, eσ4, hF⟩ := sg_letE hF
  refine g_copyi 53 C (w2 := (ww_X1c Y ad σ4)) 7 3 kmX1_copyFrom_25 kvX1_copyFrom_ac ksX1_copyFrom_ac knX1_copyFrom_sys rfl rfl (by decide) (by decide) (by decide) (by decide) (by decide) (Nat.le_of_ble_eq_true rfl) (by decide) dX1_copyFrom_50 rfl (by rw [eσ4]; rfl) ?_
  have e2 := sg_someE hF
  exact g_vret C hr hQ hsz dX1_copyFrom_53 (by rw [e2])
theorem kiX1_isThere_X1 : ∀ w ∈ u_ws RX1 TX1 4, w ∈ wsX1_isThere := by decide +kernel
theorem kfX1_isThere_9 : Cond.fieldLink RX1 9 "WeatherMinistry$Credits" "count" "I" ∈ wsX1_isThere := by decide +kernel
def f_X1_isThere (x1 : Int32) (σ : sg_S) : Option Int32 := (if 0 ≤ x1 then (if x1 < σ 0 0 then (if x1 < 8 then some 1 else some 0) else some 0) else some 0)
set_option maxHeartbeats 4000000 in
set_option maxRecDepth 100000 in
theorem c_X1_isThere (l : Launch) {D : va_G} {Y : Nat → ClassId} {Z : (Nat → Prop) → State → Heap → Prop} (hZ : sg_Zok Z) {ad : Nat → Nat} {σ : sg_S} {x1 : Int32} {r : Int32} (hF : f_X1_isThere x1 σ = some r) : sg_MI l yX1_isThere wsX1_isThere 0 0 D Y Z [.ref (ad 0), .int x1] (ww_X1 Y ad σ) r (ww_X1 Y ad σ) := by
  intro sz
  refine sg_enter (own := RX1) (maxL := 2) (ret := (some .boolean)) (cc := cX1_isThere) (by decide +kernel) rfl rfl (Nat.le_of_ble_eq_true rfl) hZ ?_
  intro p e s m args below meth c C hr Q hQ hsz
  refine g_lv (lv2 := [(0, .ref (ad 0)), (1, .int x1)]) [0, 1] rfl ?_
  rw [f_X1_isThere] at hF
  refine g_iload_n 1 C dX1_isThere_0 rfl rfl rfl ?_
  refine g_if_lt 4 22 C dX1_isThere_1 (by decide) rfl hF (fun hF => ?_) (fun hF => ?_)
  · refine g_iconst 23 C 0 dX1_isThere_22 rfl (by decide) ?_
    have e1 := sg_someE hF
    exact g_iret C hr rfl hQ hsz dX1_isThere_23 e1.symm rfl
  · refine g_iload_n 5 C dX1_isThere_4 rfl rfl rfl ?_
    refine g_aload_n 6 C dX1_isThere_5 rfl rfl rfl ?_
    refine g_get 9 C (own := RX1) (C1 := RX1) (T := TX1) 0 0 (.int (σ 0 0)) kiX1_isThere_X1 kfX1_isThere_9 rfl dX1_isThere_6 rfl rfl rfl (by decide) rfl ?_
    refine g_icmp_ge 12 22 C dX1_isThere_9 (by decide) rfl hF (fun hF => ?_) (fun hF => ?_)
    · refine g_iconst 23 C 0 dX1_isThere_22 rfl (by decide) ?_
      have e1 := sg_someE hF
      exact g_iret C hr rfl hQ hsz dX1_isThere_23 e1.symm rfl
    · refine g_iload_n 13 C dX1_isThere_12 rfl rfl rfl ?_
      refine g_bipush 15 C 8 dX1_isThere_13 rfl (by decide) ?_
      refine g_icmp_ge 18 22 C dX1_isThere_15 (by decide) rfl hF (fun hF => ?_) (fun hF => ?_)
      · refine g_iconst 23 C 0 dX1_isThere_22 rfl (by decide) ?_
        have e1 := sg_someE hF
        exact g_iret C hr rfl hQ hsz dX1_isThere_23 e1.symm rfl
      · refine g_iconst 19 C 1 dX1_isThere_18 rfl (by decide) ?_
        refine g_goto 23 C dX1_isThere_19 (by decide) ?_
        have e1 := sg_someE hF
        exact g_iret C hr rfl hQ hsz dX1_isThere_23 e1.symm rfl
theorem kiX1_add_X1 : ∀ w ∈ u_ws RX1 TX1 4, w ∈ wsX1_add := by decide +kernel
theorem kfX1_add_9 : Cond.fieldLink RX1 9 "WeatherMinistry$Credits" "count" "I" ∈ wsX1_add := by decide +kernel
theorem kfX1_add_15 : Cond.fieldLink RX1 15 "WeatherMinistry$Credits" "towns" "[I" ∈ wsX1_add := by decide +kernel
theorem kfX1_add_19 : Cond.fieldLink RX1 19 "WeatherMinistry$Credits" "hours" "[I" ∈ wsX1_add := by decide +kernel
theorem kfX1_add_22 : Cond.fieldLink RX1 22 "WeatherMinistry$Credits" "ends" "[I" ∈ wsX1_add := by decide +kernel
def f_X1_add (x1 : Int32) (x2 : Int32) (x3 : Int32) (σ : sg_S) : Option sg_S := (if σ 0 0 < 8 then sg_grd (sg_in (σ 0 0) 8) (sg_let (sg_up σ 1 ((σ 0 0).toNatClampNeg) x1) (fun σ2 => sg_grd (sg_in (σ2 0 0) 8) (sg_let (sg_up σ2 2 ((σ2 0 0).toNatClampNeg) x2) (fun σ4 => sg_grd (sg_in (σ4 0 0) 8) (sg_let (sg_up σ4 3 ((σ4 0 0).toNatClampNeg) x3) (fun σ6 => sg_let (sg_up σ6 0 0 ((σ6 0 0) + 1)) (fun σ7 => some σ7))))))) else some σ)
set_option maxHeartbeats 4000000 in
set_option maxRecDepth 100000 in
theorem c_X1_add (l : Launch) {D : va_G} {Y : Nat → ClassId} {Z : (Nat → Prop) → State → Heap → Prop} (hZ : sg_Zok Z) {ad : Nat → Nat} {σ : sg_S} {σ' : sg_S} {x1 x2 x3 : Int32} (hF : f_X1_add x1 x2 x3 σ = some σ') : sg_MV l yX1_add wsX1_add 0 0 D Y Z [.ref (ad 0), .int x1, .int x2, .int x3] (ww_X1 Y ad σ) (ww_X1 Y ad σ') := by
  intro sz
  refine sg_enter (own := RX1) (maxL := 4) (ret := none) (cc := cX1_add) (by decide +kernel) rfl rfl (Nat.le_of_ble_eq_true rfl) hZ ?_
  intro p e s m args below meth c C hr Q hQ hsz
  refine g_lv (lv2 := [(0, .ref (ad 0)), (1, .int x1), (2, .int x2), (3, .int x3)]) [0, 1, 2, 3] rfl ?_
  rw [f_X1_add] at hF
  refine g_aload_n 1 C dX1_add_0 rfl rfl rfl ?_
  refine g_get 4 C (own := RX1) (C1 := RX1) (T := TX1) 0 0 (.int (σ 0 0)) kiX1_add_X1 kfX1_add_9 rfl dX1_add_1 rfl rfl rfl (by decide) rfl ?_
  refine g_bipush 6 C 8 dX1_add_4 rfl (by decide) ?_
  refine g_icmp_ge 9 49 C dX1_add_6 (by decide) rfl hF (fun hF => ?_) (fun hF => ?_)
  · have e2 := sg_someE hF
    exact g_vret C hr hQ hsz dX1_add_49 (by rw [e2])
  · refine g_aload_n 10 C dX1_add_9 rfl rfl rfl ?_
    refine g_get 13 C (own := RX1) (C1 := RX1) (T := TX1) 0 1 (.ref (ad 1)) kiX1_add_X1 kfX1_add_15 rfl dX1_add_10 rfl rfl rfl (by decide) rfl ?_
    refine g_aload_n 14 C dX1_add_13 rfl rfl rfl ?_
    refine g_get 17 C (own := RX1) (C1 := RX1) (T := TX1) 0 0 (.int (σ 0 0)) kiX1_add_X1 kfX1_add_9 rfl dX1_add_14 rfl rfl rfl (by decide) rfl ?_
    refine g_iload_n 18 C dX1_add_17 rfl rfl rfl ?_
    obtain ⟨h1, hF⟩ := sg_grdE hF
    obtain ⟨σ2, eσ2, hF⟩ := sg_letE hF
    refine g_iast 19 C (w2 := (ww_X1 Y ad σ2)) 1 dX1_add_18 rfl rfl h1 (by rw [eσ2]; rfl) ?_
    refine g_aload_n 20 C dX1_add_19 rfl rfl rfl ?_
    refine g_get 23 C (own := RX1) (C1 := RX1) (T := TX1) 0 2 (.ref (ad 2)) kiX1_add_X1 kfX1_add_19 rfl dX1_add_20 rfl rfl rfl (by decide) rfl ?_
    refine g_aload_n 24 C dX1_add_23 rfl rfl rfl ?_
    refine g_get 27 C (own := RX1) (C1 := RX1) (T := TX1) 0 0 (.int (σ2 0 0)) kiX1_add_X1 kfX1_add_9 rfl dX1_add_24 rfl rfl rfl (by decide) rfl ?_
    refine g_iload_n 28 C dX1_add_27 rfl rfl rfl ?_
    obtain ⟨h3, hF⟩ := sg_grdE hF
    obtain ⟨σ4, eσ4, hF⟩ := sg_letE hF
    refine g_iast 29 C (w2 := (ww_X1 Y ad σ4)) 2 dX1_add_28 rfl rfl h3 (by rw [eσ4]; rfl) ?_
    refine g_aload_n 30 C dX1_add_29 rfl rfl rfl ?_
    refine g_get 33 C (own := RX1) (C1 := RX1) (T := TX1) 0 3 (.ref (ad 3)) kiX1_add_X1 kfX1_add_22 rfl dX1_add_30 rfl rfl rfl (by decide) rfl ?_
    refine g_aload_n 34 C dX1_add_33 rfl rfl rfl ?_
    refine g_get 37 C (own := RX1) (C1 := RX1) (T := TX1) 0 0 (.int (σ4 0 0)) kiX1_add_X1 kfX1_add_9 rfl dX1_add_34 rfl rfl rfl (by decide) rfl ?_
    refine g_iload_n 38 C dX1_add_37 rfl rfl rfl ?_
    obtain ⟨h5, hF⟩ := sg_grdE hF
    obtain ⟨σ6, eσ6, hF⟩ := sg_letE hF
    refine g_iast 39 C (w2 := (ww_X1 Y ad σ6)) 3 dX1_add_38 rfl rfl h5 (by rw [eσ6]; rfl) ?_
    refine g_aload_n 40 C dX1_add_39 rfl rfl rfl ?_
    refine g_dup 41 C dX1_add_40 rfl rfl ?_
    refine g_get 44 C (own := RX1) (C1 := RX1) (T := TX1) 0 0 (.int (σ6 0 0)) kiX1_add_X1 kfX1_add_9 rfl dX1_add_41 rfl rfl rfl (by decide) rfl ?_
    refine g_iconst 45 C 1 dX1_add_44 rfl (by decide) ?_
    refine g_iadd 46 C dX1_add_45 rfl ?_
    obtain ⟨σ7, eσ7, hF⟩ := sg_letE hF
    refine g_put 49 C (own := RX1) (C1 := RX1) (T := TX1) (w2 := (ww_X1 Y ad σ7)) 0 0 tyX1 tyX1_ok nmX1 kiX1_add_X1 kfX1_add_9 rfl rfl (ty := .int) (by decide) rfl rfl (sg_blt rfl) dX1_add_46 rfl rfl rfl (by decide) (by rw [eσ7]; rfl) ?_
    have e2 := sg_someE hF
    exact g_vret C hr hQ hsz dX1_add_49 (by rw [e2])
theorem kiX1_move_X1 : ∀ w ∈ u_ws RX1 TX1 4, w ∈ wsX1_move := by decide +kernel
theorem kfX1_move_15 : Cond.fieldLink RX1 15 "WeatherMinistry$Credits" "towns" "[I" ∈ wsX1_move := by decide +kernel
theorem kfX1_move_19 : Cond.fieldLink RX1 19 "WeatherMinistry$Credits" "hours" "[I" ∈ wsX1_move := by decide +kernel
theorem kfX1_move_22 : Cond.fieldLink RX1 22 "WeatherMinistry$Credits" "ends" "[I" ∈ wsX1_move := by decide +kernel
def f_X1_move (x1 : Int32) (x2 : Int32) (σ : sg_S) : Option sg_S := sg_bnd (f_X1_isThere x1 σ) (fun r1 => (if r1 = 0 then some σ else sg_bnd (f_X1_isThere x2 σ) (fun r3 => (if r3 = 0 then some σ else sg_grd (sg_in x1 8) (sg_grd (sg_in x2 8) (sg_let (sg_up σ 1 (x2.toNatClampNeg) (σ 1 x1.toNatClampNeg)) (fun σ7 => sg_let (sg_up σ7 2 (x2.toNatClampNeg) (σ7 2 x1.toNatClampNeg)) (fun σ8 => sg_let (sg_up σ8 3 (x2.toNatClampNeg) (σ8 3 x1.toNatClampNeg)) (fun σ9 => some σ9)))))))))
set_option maxHeartbeats 4000000 in
set_option maxRecDepth 100000 in
theorem c_X1_move (l : Launch) {D : va_G} {Y : Nat → ClassId} {Z : (Nat → Prop) → State → Heap → Prop} (hZ : sg_Zok Z) {ad : Nat → Nat} {σ : sg_S} {σ' : sg_S} {x1 x2 : Int32} (hF : f_X1_move x1 x2 σ = some σ') : sg_MV l yX1_move wsX1_move 1 21 D Y Z [.ref (ad 0), .int x1, .int x2] (ww_X1 Y ad σ) (ww_X1 Y ad σ') := by
  intro sz
  refine sg_enter (own := RX1) (maxL := 3) (ret := none) (cc := cX1_move) (by decide +kernel) rfl rfl (Nat.le_of_ble_eq_true rfl) hZ ?_
  intro p e s m args below meth c C hr Q hQ hsz
  refine g_lv (lv2 := [(0, .ref (ad 0)), (1, .int x1), (2, .int x2)]) [0, 1, 2] rfl ?_
  rw [f_X1_move] at hF
  refine g_aload_n 1 C dX1_move_0 rfl rfl rfl ?_
  refine g_iload_n 2 C dX1_move_1 rfl rfl rfl ?_
  obtain ⟨r1, q2, hF⟩ := sg_bndE hF
  refine g_callVi 5 C (w2 := (ww_X1 Y ad σ)) (As := [.int x1]) (st := []) (n0 := 1) (ci := 3) (q0 := 0) [0, 1, 2, 3] [] [0, 1, 2, 3] (c_X1_isThere l hZ (ad := ad) q2) gX1_move_X1_isThere ⟨rfl, by decide +kernel, by decide +kernel, rfl⟩ rfl ⟨Nat.le_of_ble_eq_true rfl, Nat.le_of_ble_eq_true rfl⟩ rfl rfl ⟨rfl, rfl, rfl, by decide, rfl, rfl⟩ rfl rfl (Nat.le_of_ble_eq_true rfl) ⟨Nat.le_refl _, Nat.le_refl _⟩ dX1_move_2 rfl rfl ?_
  refine g_if_eq 8 52 C dX1_move_5 (by decide) rfl hF (fun hF => ?_) (fun hF => ?_)
  · have e2 := sg_someE hF
    exact g_vret C hr hQ hsz dX1_move_52 (by rw [e2])
  · refine g_aload_n 9 C dX1_move_8 rfl rfl rfl ?_
    refine g_iload_n 10 C dX1_move_9 rfl rfl rfl ?_
    obtain ⟨r3, q4, hF⟩ := sg_bndE hF
    refine g_callVi 13 C (w2 := (ww_X1 Y ad σ)) (As := [.int x2]) (st := []) (n0 := 1) (ci := 3) (q0 := 0) [0, 1, 2, 3] [] [0, 1, 2, 3] (c_X1_isThere l hZ (ad := ad) q4) gX1_move_X1_isThere ⟨rfl, by decide +kernel, by decide +kernel, rfl⟩ rfl ⟨Nat.le_of_ble_eq_true rfl, Nat.le_of_ble_eq_true rfl⟩ rfl rfl ⟨rfl, rfl, rfl, by decide, rfl, rfl⟩ rfl rfl (Nat.le_of_ble_eq_true rfl) ⟨Nat.le_refl _, Nat.le_refl _⟩ dX1_move_10 rfl rfl ?_
    refine g_if_eq 16 52 C dX1_move_13 (by decide) rfl hF (fun hF => ?_) (fun hF => ?_)
    · have e2 := sg_someE hF
      exact g_vret C hr hQ hsz dX1_move_52 (by rw [e2])
    · refine g_aload_n 17 C dX1_move_16 rfl rfl rfl ?_
      refine g_get 20 C (own := RX1) (C1 := RX1) (T := TX1) 0 1 (.ref (ad 1)) kiX1_move_X1 kfX1_move_15 rfl dX1_move_17 rfl rfl rfl (by decide) rfl ?_
      refine g_iload_n 21 C dX1_move_20 rfl rfl rfl ?_
      refine g_aload_n 22 C dX1_move_21 rfl rfl rfl ?_
      refine g_get 25 C (own := RX1) (C1 := RX1) (T := TX1) 0 1 (.ref (ad 1)) kiX1_move_X1 kfX1_move_15 rfl dX1_move_22 rfl rfl rfl (by decide) rfl ?_
      refine g_iload_n 26 C dX1_move_25 rfl rfl rfl ?_
      obtain ⟨h5, hF⟩ := sg_grdE hF
      refine g_ialdc 27 C 1 (x1.toNatClampNeg) (σ 1 x1.toNatClampNeg) dX1_move_26 rfl rfl rfl h5 rfl ?_
      obtain ⟨h6, hF⟩ := sg_grdE hF
      obtain ⟨σ7, eσ7, hF⟩ := sg_letE hF
      refine g_iast 28 C (w2 := (ww_X1 Y ad σ7)) 1 dX1_move_27 rfl rfl h6 (by rw [eσ7]; rfl) ?_
      refine g_aload_n 29 C dX1_move_28 rfl rfl rfl ?_
      refine g_get 32 C (own := RX1) (C1 := RX1) (T := TX1) 0 2 (.ref (ad 2)) kiX1_move_X1 kfX1_move_19 rfl dX1_move_29 rfl rfl rfl (by decide) rfl ?_
      refine g_iload_n 33 C dX1_move_32 rfl rfl rfl ?_
      refine g_aload_n 34 C dX1_move_33 rfl rfl rfl ?_
      refine g_get 37 C (own := RX1) (C1 := RX1) (T := TX1) 0 2 (.ref (ad 2)) kiX1_move_X1 kfX1_move_19 rfl dX1_move_34 rfl rfl rfl (by decide) rfl ?_
      refine g_iload_n 38 C dX1_move_37 rfl rfl rfl ?_
      refine g_ialdc 39 C 2 (x1.toNatClampNeg) (σ7 2 x1.toNatClampNeg) dX1_move_38 rfl rfl rfl h5 rfl ?_
      obtain ⟨σ8, eσ8, hF⟩ := sg_letE hF
      refine g_iast 40 C (w2 := (ww_X1 Y ad σ8)) 2 dX1_move_39 rfl rfl h6 (by rw [eσ8]; rfl) ?_
      refine g_aload_n 41 C dX1_move_40 rfl rfl rfl ?_
      refine g_get 44 C (own := RX1) (C1 := RX1) (T := TX1) 0 3 (.ref (ad 3)) kiX1_move_X1 kfX1_move_22 rfl dX1_move_41 rfl rfl rfl (by decide) rfl ?_
      refine g_iload_n 45 C dX1_move_44 rfl rfl rfl ?_
      refine g_aload_n 46 C dX1_move_45 rfl rfl rfl ?_
      refine g_get 49 C (own := RX1) (C1 := RX1) (T := TX1) 0 3 (.ref (ad 3)) kiX1_move_X1 kfX1_move_22 rfl dX1_move_46 rfl rfl rfl (by decide) rfl ?_
      refine g_iload_n 50 C dX1_move_49 rfl rfl rfl ?_
      refine g_ialdc 51 C 3 (x1.toNatClampNeg) (σ8 3 x1.toNatClampNeg) dX1_move_50 rfl rfl rfl h5 rfl ?_
      obtain ⟨σ9, eσ9, hF⟩ := sg_letE hF
      refine g_iast 52 C (w2 := (ww_X1 Y ad σ9)) 3 dX1_move_51 rfl rfl h6 (by rw [eσ9]; rfl) ?_
      have e2 := sg_someE hF
      exact g_vret C hr hQ hsz dX1_move_52 (by rw [e2])
theorem kiX1_remove_X1 : ∀ w ∈ u_ws RX1 TX1 4, w ∈ wsX1_remove := by decide +kernel
theorem kfX1_remove_9 : Cond.fieldLink RX1 9 "WeatherMinistry$Credits" "count" "I" ∈ wsX1_remove := by decide +kernel
def f_X1_remove_L12 (x1 : Int32) : Nat → Int32 → sg_S → Option sg_S
  | 0, _, _ => none
  | nz + 1, z2, σz => (if z2 < σz 0 0 then sg_bnd (f_X1_move z2 (z2 - 1) σz) (fun τ5 => f_X1_remove_L12 x1 nz (z2 + 1) τ5) else sg_let (sg_up σz 0 0 ((σz 0 0) - 1)) (fun σ4 => some σ4))
def f_X1_remove (x1 : Int32) (σ : sg_S) : Option sg_S := sg_bnd (f_X1_isThere x1 σ) (fun r1 => (if r1 = 0 then some σ else sg_let (x1 + 1) (fun y3 => f_X1_remove_L12 x1 1000 y3 σ)))
set_option maxHeartbeats 4000000 in
set_option maxRecDepth 100000 in
theorem c_X1_remove (l : Launch) {D : va_G} {Y : Nat → ClassId} {Z : (Nat → Prop) → State → Heap → Prop} (hZ : sg_Zok Z) {ad : Nat → Nat} {σ : sg_S} {σ' : sg_S} {x1 : Int32} (hF : f_X1_remove x1 σ = some σ') : sg_MV l yX1_remove wsX1_remove 2 43 D Y Z [.ref (ad 0), .int x1] (ww_X1 Y ad σ) (ww_X1 Y ad σ') := by
  intro sz
  refine sg_enter (own := RX1) (maxL := 3) (ret := none) (cc := cX1_remove) (by decide +kernel) rfl rfl (Nat.le_of_ble_eq_true rfl) hZ ?_
  intro p e s m args below meth c C hr Q hQ hsz
  refine g_lv (lv2 := [(0, .ref (ad 0)), (1, .int x1)]) [0, 1] rfl ?_
  have K12 : ∀ (nz : Nat), ∀ (z2 : Int32) (σz : sg_S), f_X1_remove_L12 x1 nz z2 σz = some σ' → sg_G p l e ({ frames := 2, cells := 0, slots := 0, locals := 43 } : Room) s m args below meth c D (va_A (ww_X1 Y ad σ) s.heap.size) 3 0 0 Q 12 [(0, .ref (ad 0)), (2, .int z2)] [] (ww_X1 Y ad σz) := by
    intro nz
    induction nz with
    | zero =>
      intro z2 σz hF
      rw [f_X1_remove_L12.eq_1] at hF
      exact nomatch hF
    | succ nz ih =>
      intro z2 σz hF
      rw [f_X1_remove_L12.eq_2] at hF
      refine g_iload_n 13 C dX1_remove_12 rfl rfl rfl ?_
      refine g_aload_n 14 C dX1_remove_13 rfl rfl rfl ?_
      refine g_get 17 C (own := RX1) (C1 := RX1) (T := TX1) 0 0 (.int (σz 0 0)) kiX1_remove_X1 kfX1_remove_9 rfl dX1_remove_14 rfl rfl rfl (by decide) rfl ?_
      refine g_icmp_ge 20 34 C dX1_remove_17 (by decide) rfl hF (fun hF => ?_) (fun hF => ?_)
      · refine g_aload_n 35 C dX1_remove_34 rfl rfl rfl ?_
        refine g_dup 36 C dX1_remove_35 rfl rfl ?_
        refine g_get 39 C (own := RX1) (C1 := RX1) (T := TX1) 0 0 (.int (σz 0 0)) kiX1_remove_X1 kfX1_remove_9 rfl dX1_remove_36 rfl rfl rfl (by decide) rfl ?_
        refine g_iconst 40 C 1 dX1_remove_39 rfl (by decide) ?_
        refine g_isub 41 C dX1_remove_40 rfl ?_
        obtain ⟨σ4, eσ4, hF⟩ := sg_letE hF
        refine g_put 44 C (own := RX1) (C1 := RX1) (T := TX1) (w2 := (ww_X1 Y ad σ4)) 0 0 tyX1 tyX1_ok nmX1 kiX1_remove_X1 kfX1_remove_9 rfl rfl (ty := .int) (by decide) rfl rfl (sg_blt rfl) dX1_remove_41 rfl rfl rfl (by decide) (by rw [eσ4]; rfl) ?_
        have e2 := sg_someE hF
        exact g_vret C hr hQ hsz dX1_remove_44 (by rw [e2])
      · refine g_aload_n 21 C dX1_remove_20 rfl rfl rfl ?_
        refine g_iload_n 22 C dX1_remove_21 rfl rfl rfl ?_
        refine g_iload_n 23 C dX1_remove_22 rfl rfl rfl ?_
        refine g_iconst 24 C 1 dX1_remove_23 rfl (by decide) ?_
        refine g_isub 25 C dX1_remove_24 rfl ?_
        obtain ⟨τ5, q6, hF⟩ := sg_bndE hF
        refine g_callVv 28 C (w2 := (ww_X1 Y ad τ5)) (As := [.int z2, .int (z2 - 1)]) (st := []) (n0 := 2) (ci := 3) (q0 := 0) [0, 1, 2, 3] [] [0, 1, 2, 3] (c_X1_move l hZ (ad := ad) q6) gX1_remove_X1_move ⟨rfl, by decide +kernel, by decide +kernel, rfl⟩ rfl ⟨Nat.le_of_ble_eq_true rfl, Nat.le_of_ble_eq_true rfl⟩ rfl rfl ⟨rfl, rfl, rfl, by decide, rfl, rfl⟩ rfl rfl (Nat.le_of_ble_eq_true rfl) ⟨Nat.le_refl _, Nat.le_refl _⟩ dX1_remove_25 rfl rfl ?_
        refine g_iinc 31 C 1 (z2 + 1) [(2, .int (z2 + 1)), (0, .ref (ad 0))] dX1_remove_28 rfl rfl rfl (by decide) rfl ?_
        refine g_goto 12 C dX1_remove_31 (by decide) ?_
        refine g_lv (lv2 := [(0, .ref (ad 0)), (2, .int (z2 + 1))]) [1, 0] rfl ?_
        exact ih (z2 + 1) τ5 hF
  rw [f_X1_remove] at hF
  refine g_aload_n 1 C dX1_remove_0 rfl rfl rfl ?_
  refine g_iload_n 2 C dX1_remove_1 rfl rfl rfl ?_
  obtain ⟨r1, q2, hF⟩ := sg_bndE hF
  refine g_callVi 5 C (w2 := (ww_X1 Y ad σ)) (As := [.int x1]) (st := []) (n0 := 1) (ci := 3) (q0 := 0) [0, 1, 2, 3] [] [0, 1, 2, 3] (c_X1_isThere l hZ (ad := ad) q2) gX1_remove_X1_isThere ⟨rfl, by decide +kernel, by decide +kernel, rfl⟩ rfl ⟨Nat.le_of_ble_eq_true rfl, Nat.le_of_ble_eq_true rfl⟩ rfl rfl ⟨rfl, rfl, rfl, by decide, rfl, rfl⟩ rfl rfl (Nat.le_of_ble_eq_true rfl) ⟨Nat.le_refl _, Nat.le_refl _⟩ dX1_remove_2 rfl rfl ?_
  refine g_if_eq 8 44 C dX1_remove_5 (by decide) rfl hF (fun hF => ?_) (fun hF => ?_)
  · have e2 := sg_someE hF
    exact g_vret C hr hQ hsz dX1_remove_44 (by rw [e2])
  · refine g_iload_n 9 C dX1_remove_8 rfl rfl rfl ?_
    refine g_iconst 10 C 1 dX1_remove_9 rfl (by decide) ?_
    refine g_iadd 11 C dX1_remove_10 rfl ?_
    obtain ⟨y3, ey3, hF⟩ := sg_letE hF
    refine g_top ey3 ?_
    refine g_istore_n 12 C [(2, .int y3), (0, .ref (ad 0)), (1, .int x1)] dX1_remove_11 rfl rfl (by decide) rfl ?_
    refine g_lv (lv2 := [(0, .ref (ad 0)), (2, .int y3)]) [1, 0] rfl ?_
    exact K12  1000 y3 σ hF
theorem kiX1_countOf_X1 : ∀ w ∈ u_ws RX1 TX1 4, w ∈ wsX1_countOf := by decide +kernel
theorem kfX1_countOf_9 : Cond.fieldLink RX1 9 "WeatherMinistry$Credits" "count" "I" ∈ wsX1_countOf := by decide +kernel
theorem kfX1_countOf_15 : Cond.fieldLink RX1 15 "WeatherMinistry$Credits" "towns" "[I" ∈ wsX1_countOf := by decide +kernel
def f_X1_countOf_L4 (x1 : Int32) (σ : sg_S) : Nat → Int32 → Int32 → Option Int32
  | 0, _, _ => none
  | nz + 1, z2, z3 => (if z3 < σ 0 0 then sg_grd (sg_in z3 8) ((if σ 1 z3.toNatClampNeg = x1 then f_X1_countOf_L4 x1 σ nz (z2 + 1) (z3 + 1) else f_X1_countOf_L4 x1 σ nz z2 (z3 + 1))) else some z2)
def f_X1_countOf (x1 : Int32) (σ : sg_S) : Option Int32 := f_X1_countOf_L4 x1 σ 1000 0 0
set_option maxHeartbeats 4000000 in
set_option maxRecDepth 100000 in
theorem c_X1_countOf (l : Launch) {D : va_G} {Y : Nat → ClassId} {Z : (Nat → Prop) → State → Heap → Prop} (hZ : sg_Zok Z) {ad : Nat → Nat} {σ : sg_S} {x1 : Int32} {r : Int32} (hF : f_X1_countOf x1 σ = some r) : sg_MI l yX1_countOf wsX1_countOf 0 0 D Y Z [.ref (ad 0), .int x1] (ww_X1 Y ad σ) r (ww_X1 Y ad σ) := by
  intro sz
  refine sg_enter (own := RX1) (maxL := 4) (ret := (some .int)) (cc := cX1_countOf) (by decide +kernel) rfl rfl (Nat.le_of_ble_eq_true rfl) hZ ?_
  intro p e s m args below meth c C hr Q hQ hsz
  refine g_lv (lv2 := [(0, .ref (ad 0)), (1, .int x1)]) [0, 1] rfl ?_
  have K4 : ∀ (nz : Nat), ∀ (z2 : Int32) (z3 : Int32), f_X1_countOf_L4 x1 σ nz z2 z3 = some r → sg_G p l e ({ frames := 0, cells := 0, slots := 0, locals := 0 } : Room) s m args below meth c D (va_A (ww_X1 Y ad σ) s.heap.size) 4 0 0 Q 4 [(0, .ref (ad 0)), (1, .int x1), (2, .int z2), (3, .int z3)] [] (ww_X1 Y ad σ) := by
    intro nz
    induction nz with
    | zero =>
      intro z2 z3 hF
      rw [f_X1_countOf_L4.eq_1] at hF
      exact nomatch hF
    | succ nz ih =>
      intro z2 z3 hF
      rw [f_X1_countOf_L4.eq_2] at hF
      refine g_iload_n 5 C dX1_countOf_4 rfl rfl rfl ?_
      refine g_aload_n 6 C dX1_countOf_5 rfl rfl rfl ?_
      refine g_get 9 C (own := RX1) (C1 := RX1) (T := TX1) 0 0 (.int (σ 0 0)) kiX1_countOf_X1 kfX1_countOf_9 rfl dX1_countOf_6 rfl rfl rfl (by decide) rfl ?_
      refine g_icmp_ge 12 31 C dX1_countOf_9 (by decide) rfl hF (fun hF => ?_) (fun hF => ?_)
      · refine g_iload_n 32 C dX1_countOf_31 rfl rfl rfl ?_
        have e1 := sg_someE hF
        exact g_iret C hr rfl hQ hsz dX1_countOf_32 e1.symm rfl
      · refine g_aload_n 13 C dX1_countOf_12 rfl rfl rfl ?_
        refine g_get 16 C (own := RX1) (C1 := RX1) (T := TX1) 0 1 (.ref (ad 1)) kiX1_countOf_X1 kfX1_countOf_15 rfl dX1_countOf_13 rfl rfl rfl (by decide) rfl ?_
        refine g_iload_n 17 C dX1_countOf_16 rfl rfl rfl ?_
        obtain ⟨h1, hF⟩ := sg_grdE hF
        refine g_ialdc 18 C 1 (z3.toNatClampNeg) (σ 1 z3.toNatClampNeg) dX1_countOf_17 rfl rfl rfl h1 rfl ?_
        refine g_iload_n 19 C dX1_countOf_18 rfl rfl rfl ?_
        refine g_icmp_ne 22 25 C dX1_countOf_19 (by decide) rfl hF (fun hF => ?_) (fun hF => ?_)
        · refine g_iinc 28 C 3 (z3 + 1) [(3, .int (z3 + 1)), (0, .ref (ad 0)), (1, .int x1), (2, .int z2)] dX1_countOf_25 rfl rfl rfl (by decide) rfl ?_
          refine g_goto 4 C dX1_countOf_28 (by decide) ?_
          refine g_lv (lv2 := [(0, .ref (ad 0)), (1, .int x1), (2, .int z2), (3, .int (z3 + 1))]) [1, 2, 3, 0] rfl ?_
          exact ih z2 (z3 + 1) hF
        · refine g_iinc 25 C 2 (z2 + 1) [(2, .int (z2 + 1)), (0, .ref (ad 0)), (1, .int x1), (3, .int z3)] dX1_countOf_22 rfl rfl rfl (by decide) rfl ?_
          refine g_iinc 28 C 3 (z3 + 1) [(3, .int (z3 + 1)), (2, .int (z2 + 1)), (0, .ref (ad 0)), (1, .int x1)] dX1_countOf_25 rfl rfl rfl (by decide) rfl ?_
          refine g_goto 4 C dX1_countOf_28 (by decide) ?_
          refine g_lv (lv2 := [(0, .ref (ad 0)), (1, .int x1), (2, .int (z2 + 1)), (3, .int (z3 + 1))]) [2, 3, 1, 0] rfl ?_
          exact ih (z2 + 1) (z3 + 1) hF
  rw [f_X1_countOf] at hF
  refine g_iconst 1 C 0 dX1_countOf_0 rfl (by decide) ?_
  refine g_istore_n 2 C [(2, .int 0), (0, .ref (ad 0)), (1, .int x1)] dX1_countOf_1 rfl rfl (by decide) rfl ?_
  refine g_iconst 3 C 0 dX1_countOf_2 rfl (by decide) ?_
  refine g_istore_n 4 C [(3, .int 0), (2, .int 0), (0, .ref (ad 0)), (1, .int x1)] dX1_countOf_3 rfl rfl (by decide) rfl ?_
  refine g_lv (lv2 := [(0, .ref (ad 0)), (1, .int x1), (2, .int 0), (3, .int 0)]) [2, 3, 1, 0] rfl ?_
  exact K4  1000 0 0 hF
theorem kiX1_owedBy_X1 : ∀ w ∈ u_ws RX1 TX1 4, w ∈ wsX1_owedBy := by decide +kernel
theorem kfX1_owedBy_9 : Cond.fieldLink RX1 9 "WeatherMinistry$Credits" "count" "I" ∈ wsX1_owedBy := by decide +kernel
theorem kfX1_owedBy_15 : Cond.fieldLink RX1 15 "WeatherMinistry$Credits" "towns" "[I" ∈ wsX1_owedBy := by decide +kernel
theorem kfX1_owedBy_19 : Cond.fieldLink RX1 19 "WeatherMinistry$Credits" "hours" "[I" ∈ wsX1_owedBy := by decide +kernel
def f_X1_owedBy_L4 (x1 : Int32) (σ : sg_S) : Nat → Int32 → Int32 → Option Int32
  | 0, _, _ => none
  | nz + 1, z2, z3 => (if z3 < σ 0 0 then sg_grd (sg_in z3 8) ((if σ 1 z3.toNatClampNeg = x1 then sg_let (z2 + (σ 2 z3.toNatClampNeg)) (fun y2 => f_X1_owedBy_L4 x1 σ nz y2 (z3 + 1)) else f_X1_owedBy_L4 x1 σ nz z2 (z3 + 1))) else some z2)
def f_X1_owedBy (x1 : Int32) (σ : sg_S) : Option Int32 := f_X1_owedBy_L4 x1 σ 1000 0 0
set_option maxHeartbeats 4000000 in
set_option maxRecDepth 100000 in
theorem c_X1_owedBy (l : Launch) {D : va_G} {Y : Nat → ClassId} {Z : (Nat → Prop) → State → Heap → Prop} (hZ : sg_Zok Z) {ad : Nat → Nat} {σ : sg_S} {x1 : Int32} {r : Int32} (hF : f_X1_owedBy x1 σ = some r) : sg_MI l yX1_owedBy wsX1_owedBy 0 0 D Y Z [.ref (ad 0), .int x1] (ww_X1 Y ad σ) r (ww_X1 Y ad σ) := by
  intro sz
  refine sg_enter (own := RX1) (maxL := 4) (ret := (some .int)) (cc := cX1_owedBy) (by decide +kernel) rfl rfl (Nat.le_of_ble_eq_true rfl) hZ ?_
  intro p e s m args below meth c C hr Q hQ hsz
  refine g_lv (lv2 := [(0, .ref (ad 0)), (1, .int x1)]) [0, 1] rfl ?_
  have K4 : ∀ (nz : Nat), ∀ (z2 : Int32) (z3 : Int32), f_X1_owedBy_L4 x1 σ nz z2 z3 = some r → sg_G p l e ({ frames := 0, cells := 0, slots := 0, locals := 0 } : Room) s m args below meth c D (va_A (ww_X1 Y ad σ) s.heap.size) 4 0 0 Q 4 [(0, .ref (ad 0)), (1, .int x1), (2, .int z2), (3, .int z3)] [] (ww_X1 Y ad σ) := by
    intro nz
    induction nz with
    | zero =>
      intro z2 z3 hF
      rw [f_X1_owedBy_L4.eq_1] at hF
      exact nomatch hF
    | succ nz ih =>
      intro z2 z3 hF
      rw [f_X1_owedBy_L4.eq_2] at hF
      refine g_iload_n 5 C dX1_owedBy_4 rfl rfl rfl ?_
      refine g_aload_n 6 C dX1_owedBy_5 rfl rfl rfl ?_
      refine g_get 9 C (own := RX1) (C1 := RX1) (T := TX1) 0 0 (.int (σ 0 0)) kiX1_owedBy_X1 kfX1_owedBy_9 rfl dX1_owedBy_6 rfl rfl rfl (by decide) rfl ?_
      refine g_icmp_ge 12 37 C dX1_owedBy_9 (by decide) rfl hF (fun hF => ?_) (fun hF => ?_)
      · refine g_iload_n 38 C dX1_owedBy_37 rfl rfl rfl ?_
        have e1 := sg_someE hF
        exact g_iret C hr rfl hQ hsz dX1_owedBy_38 e1.symm rfl
      · refine g_aload_n 13 C dX1_owedBy_12 rfl rfl rfl ?_
        refine g_get 16 C (own := RX1) (C1 := RX1) (T := TX1) 0 1 (.ref (ad 1)) kiX1_owedBy_X1 kfX1_owedBy_15 rfl dX1_owedBy_13 rfl rfl rfl (by decide) rfl ?_
        refine g_iload_n 17 C dX1_owedBy_16 rfl rfl rfl ?_
        obtain ⟨h1, hF⟩ := sg_grdE hF
        refine g_ialdc 18 C 1 (z3.toNatClampNeg) (σ 1 z3.toNatClampNeg) dX1_owedBy_17 rfl rfl rfl h1 rfl ?_
        refine g_iload_n 19 C dX1_owedBy_18 rfl rfl rfl ?_
        refine g_icmp_ne 22 31 C dX1_owedBy_19 (by decide) rfl hF (fun hF => ?_) (fun hF => ?_)
        · refine g_iinc 34 C 3 (z3 + 1) [(3, .int (z3 + 1)), (0, .ref (ad 0)), (1, .int x1), (2, .int z2)] dX1_owedBy_31 rfl rfl rfl (by decide) rfl ?_
          refine g_goto 4 C dX1_owedBy_34 (by decide) ?_
          refine g_lv (lv2 := [(0, .ref (ad 0)), (1, .int x1), (2, .int z2), (3, .int (z3 + 1))]) [1, 2, 3, 0] rfl ?_
          exact ih z2 (z3 + 1) hF
        · refine g_iload_n 23 C dX1_owedBy_22 rfl rfl rfl ?_
          refine g_aload_n 24 C dX1_owedBy_23 rfl rfl rfl ?_
          refine g_get 27 C (own := RX1) (C1 := RX1) (T := TX1) 0 2 (.ref (ad 2)) kiX1_owedBy_X1 kfX1_owedBy_19 rfl dX1_owedBy_24 rfl rfl rfl (by decide) rfl ?_
          refine g_iload_n 28 C dX1_owedBy_27 rfl rfl rfl ?_
          refine g_ialdc 29 C 2 (z3.toNatClampNeg) (σ 2 z3.toNatClampNeg) dX1_owedBy_28 rfl rfl rfl h1 rfl ?_
          refine g_iadd 30 C dX1_owedBy_29 rfl ?_
          obtain ⟨y2, ey2, hF⟩ := sg_letE hF
          refine g_top ey2 ?_
          refine g_istore_n 31 C [(2, .int y2), (0, .ref (ad 0)), (1, .int x1), (3, .int z3)] dX1_owedBy_30 rfl rfl (by decide) rfl ?_
          refine g_iinc 34 C 3 (z3 + 1) [(3, .int (z3 + 1)), (2, .int y2), (0, .ref (ad 0)), (1, .int x1)] dX1_owedBy_31 rfl rfl rfl (by decide) rfl ?_
          refine g_goto 4 C dX1_owedBy_34 (by decide) ?_
          refine g_lv (lv2 := [(0, .ref (ad 0)), (1, .int x1), (2, .int y2), (3, .int (z3 + 1))]) [2, 3, 1, 0] rfl ?_
          exact ih y2 (z3 + 1) hF
  rw [f_X1_owedBy] at hF
  refine g_iconst 1 C 0 dX1_owedBy_0 rfl (by decide) ?_
  refine g_istore_n 2 C [(2, .int 0), (0, .ref (ad 0)), (1, .int x1)] dX1_owedBy_1 rfl rfl (by decide) rfl ?_
  refine g_iconst 3 C 0 dX1_owedBy_2 rfl (by decide) ?_
  refine g_istore_n 4 C [(3, .int 0), (2, .int 0), (0, .ref (ad 0)), (1, .int x1)] dX1_owedBy_3 rfl rfl (by decide) rfl ?_
  refine g_lv (lv2 := [(0, .ref (ad 0)), (1, .int x1), (2, .int 0), (3, .int 0)]) [2, 3, 1, 0] rfl ?_
  exact K4  1000 0 0 hF
theorem kiX1_owedIn_X1 : ∀ w ∈ u_ws RX1 TX1 4, w ∈ wsX1_owedIn := by decide +kernel
theorem kfX1_owedIn_9 : Cond.fieldLink RX1 9 "WeatherMinistry$Credits" "count" "I" ∈ wsX1_owedIn := by decide +kernel
theorem kfX1_owedIn_15 : Cond.fieldLink RX1 15 "WeatherMinistry$Credits" "towns" "[I" ∈ wsX1_owedIn := by decide +kernel
theorem kfX1_owedIn_22 : Cond.fieldLink RX1 22 "WeatherMinistry$Credits" "ends" "[I" ∈ wsX1_owedIn := by decide +kernel
theorem kfX1_owedIn_19 : Cond.fieldLink RX1 19 "WeatherMinistry$Credits" "hours" "[I" ∈ wsX1_owedIn := by decide +kernel
def f_X1_owedIn_L5 (x1 : Int32) (x2 : Int32) (σ : sg_S) : Nat → Int32 → Int32 → Option Int32
  | 0, _, _ => none
  | nz + 1, z3, z4 => (if z4 < σ 0 0 then sg_grd (sg_in z4 8) ((if σ 1 z4.toNatClampNeg = x1 then (if σ 3 z4.toNatClampNeg = x2 then sg_let (z3 + (σ 2 z4.toNatClampNeg)) (fun y2 => f_X1_owedIn_L5 x1 x2 σ nz y2 (z4 + 1)) else f_X1_owedIn_L5 x1 x2 σ nz z3 (z4 + 1)) else f_X1_owedIn_L5 x1 x2 σ nz z3 (z4 + 1))) else some z3)
def f_X1_owedIn (x1 : Int32) (x2 : Int32) (σ : sg_S) : Option Int32 := f_X1_owedIn_L5 x1 x2 σ 1000 0 0
set_option maxHeartbeats 4000000 in
set_option maxRecDepth 100000 in
theorem c_X1_owedIn (l : Launch) {D : va_G} {Y : Nat → ClassId} {Z : (Nat → Prop) → State → Heap → Prop} (hZ : sg_Zok Z) {ad : Nat → Nat} {σ : sg_S} {x1 x2 : Int32} {r : Int32} (hF : f_X1_owedIn x1 x2 σ = some r) : sg_MI l yX1_owedIn wsX1_owedIn 0 0 D Y Z [.ref (ad 0), .int x1, .int x2] (ww_X1 Y ad σ) r (ww_X1 Y ad σ) := by
  intro sz
  refine sg_enter (own := RX1) (maxL := 5) (ret := (some .int)) (cc := cX1_owedIn) (by decide +kernel) rfl rfl (Nat.le_of_ble_eq_true rfl) hZ ?_
  intro p e s m args below meth c C hr Q hQ hsz
  refine g_lv (lv2 := [(0, .ref (ad 0)), (1, .int x1), (2, .int x2)]) [0, 1, 2] rfl ?_
  have K5 : ∀ (nz : Nat), ∀ (z3 : Int32) (z4 : Int32), f_X1_owedIn_L5 x1 x2 σ nz z3 z4 = some r → sg_G p l e ({ frames := 0, cells := 0, slots := 0, locals := 0 } : Room) s m args below meth c D (va_A (ww_X1 Y ad σ) s.heap.size) 5 0 0 Q 5 [(0, .ref (ad 0)), (1, .int x1), (2, .int x2), (3, .int z3), (4, .int z4)] [] (ww_X1 Y ad σ) := by
    intro nz
    induction nz with
    | zero =>
      intro z3 z4 hF
      rw [f_X1_owedIn_L5.eq_1] at hF
      exact nomatch hF
    | succ nz ih =>
      intro z3 z4 hF
      rw [f_X1_owedIn_L5.eq_2] at hF
      refine g_iload 7 C dX1_owedIn_5 rfl rfl ?_
      refine g_aload_n 8 C dX1_owedIn_7 rfl rfl rfl ?_
      refine g_get 11 C (own := RX1) (C1 := RX1) (T := TX1) 0 0 (.int (σ 0 0)) kiX1_owedIn_X1 kfX1_owedIn_9 rfl dX1_owedIn_8 rfl rfl rfl (by decide) rfl ?_
      refine g_icmp_ge 14 52 C dX1_owedIn_11 (by decide) rfl hF (fun hF => ?_) (fun hF => ?_)
      · refine g_iload_n 53 C dX1_owedIn_52 rfl rfl rfl ?_
        have e1 := sg_someE hF
        exact g_iret C hr rfl hQ hsz dX1_owedIn_53 e1.symm rfl
      · refine g_aload_n 15 C dX1_owedIn_14 rfl rfl rfl ?_
        refine g_get 18 C (own := RX1) (C1 := RX1) (T := TX1) 0 1 (.ref (ad 1)) kiX1_owedIn_X1 kfX1_owedIn_15 rfl dX1_owedIn_15 rfl rfl rfl (by decide) rfl ?_
        refine g_iload 20 C dX1_owedIn_18 rfl rfl ?_
        obtain ⟨h1, hF⟩ := sg_grdE hF
        refine g_ialdc 21 C 1 (z4.toNatClampNeg) (σ 1 z4.toNatClampNeg) dX1_owedIn_20 rfl rfl rfl h1 rfl ?_
        refine g_iload_n 22 C dX1_owedIn_21 rfl rfl rfl ?_
        refine g_icmp_ne 25 46 C dX1_owedIn_22 (by decide) rfl hF (fun hF => ?_) (fun hF => ?_)
        · refine g_iinc 49 C 4 (z4 + 1) [(4, .int (z4 + 1)), (0, .ref (ad 0)), (1, .int x1), (2, .int x2), (3, .int z3)] dX1_owedIn_46 rfl rfl rfl (by decide) rfl ?_
          refine g_goto 5 C dX1_owedIn_49 (by decide) ?_
          refine g_lv (lv2 := [(0, .ref (ad 0)), (1, .int x1), (2, .int x2), (3, .int z3), (4, .int (z4 + 1))]) [1, 2, 3, 4, 0] rfl ?_
          exact ih z3 (z4 + 1) hF
        · refine g_aload_n 26 C dX1_owedIn_25 rfl rfl rfl ?_
          refine g_get 29 C (own := RX1) (C1 := RX1) (T := TX1) 0 3 (.ref (ad 3)) kiX1_owedIn_X1 kfX1_owedIn_22 rfl dX1_owedIn_26 rfl rfl rfl (by decide) rfl ?_
          refine g_iload 31 C dX1_owedIn_29 rfl rfl ?_
          refine g_ialdc 32 C 3 (z4.toNatClampNeg) (σ 3 z4.toNatClampNeg) dX1_owedIn_31 rfl rfl rfl h1 rfl ?_
          refine g_iload_n 33 C dX1_owedIn_32 rfl rfl rfl ?_
          refine g_icmp_ne 36 46 C dX1_owedIn_33 (by decide) rfl hF (fun hF => ?_) (fun hF => ?_)
          · refine g_iinc 49 C 4 (z4 + 1) [(4, .int (z4 + 1)), (0, .ref (ad 0)), (1, .int x1), (2, .int x2), (3, .int z3)] dX1_owedIn_46 rfl rfl rfl (by decide) rfl ?_
            refine g_goto 5 C dX1_owedIn_49 (by decide) ?_
            refine g_lv (lv2 := [(0, .ref (ad 0)), (1, .int x1), (2, .int x2), (3, .int z3), (4, .int (z4 + 1))]) [1, 2, 3, 4, 0] rfl ?_
            exact ih z3 (z4 + 1) hF
          · refine g_iload_n 37 C dX1_owedIn_36 rfl rfl rfl ?_
            refine g_aload_n 38 C dX1_owedIn_37 rfl rfl rfl ?_
            refine g_get 41 C (own := RX1) (C1 := RX1) (T := TX1) 0 2 (.ref (ad 2)) kiX1_owedIn_X1 kfX1_owedIn_19 rfl dX1_owedIn_38 rfl rfl rfl (by decide) rfl ?_
            refine g_iload 43 C dX1_owedIn_41 rfl rfl ?_
            refine g_ialdc 44 C 2 (z4.toNatClampNeg) (σ 2 z4.toNatClampNeg) dX1_owedIn_43 rfl rfl rfl h1 rfl ?_
            refine g_iadd 45 C dX1_owedIn_44 rfl ?_
            obtain ⟨y2, ey2, hF⟩ := sg_letE hF
            refine g_top ey2 ?_
            refine g_istore_n 46 C [(3, .int y2), (0, .ref (ad 0)), (1, .int x1), (2, .int x2), (4, .int z4)] dX1_owedIn_45 rfl rfl (by decide) rfl ?_
            refine g_iinc 49 C 4 (z4 + 1) [(4, .int (z4 + 1)), (3, .int y2), (0, .ref (ad 0)), (1, .int x1), (2, .int x2)] dX1_owedIn_46 rfl rfl rfl (by decide) rfl ?_
            refine g_goto 5 C dX1_owedIn_49 (by decide) ?_
            refine g_lv (lv2 := [(0, .ref (ad 0)), (1, .int x1), (2, .int x2), (3, .int y2), (4, .int (z4 + 1))]) [2, 3, 4, 1, 0] rfl ?_
            exact ih y2 (z4 + 1) hF
  rw [f_X1_owedIn] at hF
  refine g_iconst 1 C 0 dX1_owedIn_0 rfl (by decide) ?_
  refine g_istore_n 2 C [(3, .int 0), (0, .ref (ad 0)), (1, .int x1), (2, .int x2)] dX1_owedIn_1 rfl rfl (by decide) rfl ?_
  refine g_iconst 3 C 0 dX1_owedIn_2 rfl (by decide) ?_
  refine g_istore 5 C [(4, .int 0), (3, .int 0), (0, .ref (ad 0)), (1, .int x1), (2, .int x2)] dX1_owedIn_3 rfl (by decide) rfl ?_
  refine g_lv (lv2 := [(0, .ref (ad 0)), (1, .int x1), (2, .int x2), (3, .int 0), (4, .int 0)]) [2, 3, 4, 1, 0] rfl ?_
  exact K5  1000 0 0 hF
theorem kiX1_comesAhead_X1 : ∀ w ∈ u_ws RX1 TX1 4, w ∈ wsX1_comesAhead := by decide +kernel
theorem kfX1_comesAhead_22 : Cond.fieldLink RX1 22 "WeatherMinistry$Credits" "ends" "[I" ∈ wsX1_comesAhead := by decide +kernel
theorem kfX1_comesAhead_19 : Cond.fieldLink RX1 19 "WeatherMinistry$Credits" "hours" "[I" ∈ wsX1_comesAhead := by decide +kernel
def f_X1_comesAhead (x1 : Int32) (x2 : Int32) (σ : sg_S) : Option Int32 := sg_bnd (f_X1_isThere x1 σ) (fun r1 => (if r1 = 0 then some 0 else sg_bnd (f_X1_isThere x2 σ) (fun r3 => (if r3 = 0 then some 0 else sg_grd (sg_in x1 8) (sg_grd (sg_in x2 8) ((if σ 3 x1.toNatClampNeg = σ 3 x2.toNatClampNeg then (if σ 2 x1.toNatClampNeg = σ 2 x2.toNatClampNeg then (if x1 < x2 then some 1 else some 0) else (if σ 2 x2.toNatClampNeg < σ 2 x1.toNatClampNeg then some 1 else some 0)) else (if σ 3 x1.toNatClampNeg < σ 3 x2.toNatClampNeg then some 1 else some 0))))))))
set_option maxHeartbeats 4000000 in
set_option maxRecDepth 100000 in
theorem c_X1_comesAhead (l : Launch) {D : va_G} {Y : Nat → ClassId} {Z : (Nat → Prop) → State → Heap → Prop} (hZ : sg_Zok Z) {ad : Nat → Nat} {σ : sg_S} {x1 x2 : Int32} {r : Int32} (hF : f_X1_comesAhead x1 x2 σ = some r) : sg_MI l yX1_comesAhead wsX1_comesAhead 1 21 D Y Z [.ref (ad 0), .int x1, .int x2] (ww_X1 Y ad σ) r (ww_X1 Y ad σ) := by
  intro sz
  refine sg_enter (own := RX1) (maxL := 3) (ret := (some .boolean)) (cc := cX1_comesAhead) (by decide +kernel) rfl rfl (Nat.le_of_ble_eq_true rfl) hZ ?_
  intro p e s m args below meth c C hr Q hQ hsz
  refine g_lv (lv2 := [(0, .ref (ad 0)), (1, .int x1), (2, .int x2)]) [0, 1, 2] rfl ?_
  rw [f_X1_comesAhead] at hF
  refine g_aload_n 1 C dX1_comesAhead_0 rfl rfl rfl ?_
  refine g_iload_n 2 C dX1_comesAhead_1 rfl rfl rfl ?_
  obtain ⟨r1, q2, hF⟩ := sg_bndE hF
  refine g_callVi 5 C (w2 := (ww_X1 Y ad σ)) (As := [.int x1]) (st := []) (n0 := 1) (ci := 3) (q0 := 0) [0, 1, 2, 3] [] [0, 1, 2, 3] (c_X1_isThere l hZ (ad := ad) q2) gX1_comesAhead_X1_isThere ⟨rfl, by decide +kernel, by decide +kernel, rfl⟩ rfl ⟨Nat.le_of_ble_eq_true rfl, Nat.le_of_ble_eq_true rfl⟩ rfl rfl ⟨rfl, rfl, rfl, by decide, rfl, rfl⟩ rfl rfl (Nat.le_of_ble_eq_true rfl) ⟨Nat.le_refl _, Nat.le_refl _⟩ dX1_comesAhead_2 rfl rfl ?_
  refine g_if_eq 8 16 C dX1_comesAhead_5 (by decide) rfl hF (fun hF => ?_) (fun hF => ?_)
  · refine g_iconst 17 C 0 dX1_comesAhead_16 rfl (by decide) ?_
    have e1 := sg_someE hF
    exact g_iret C hr rfl hQ hsz dX1_comesAhead_17 e1.symm rfl
  · refine g_aload_n 9 C dX1_comesAhead_8 rfl rfl rfl ?_
    refine g_iload_n 10 C dX1_comesAhead_9 rfl rfl rfl ?_
    obtain ⟨r3, q4, hF⟩ := sg_bndE hF
    refine g_callVi 13 C (w2 := (ww_X1 Y ad σ)) (As := [.int x2]) (st := []) (n0 := 1) (ci := 3) (q0 := 0) [0, 1, 2, 3] [] [0, 1, 2, 3] (c_X1_isThere l hZ (ad := ad) q4) gX1_comesAhead_X1_isThere ⟨rfl, by decide +kernel, by decide +kernel, rfl⟩ rfl ⟨Nat.le_of_ble_eq_true rfl, Nat.le_of_ble_eq_true rfl⟩ rfl rfl ⟨rfl, rfl, rfl, by decide, rfl, rfl⟩ rfl rfl (Nat.le_of_ble_eq_true rfl) ⟨Nat.le_refl _, Nat.le_refl _⟩ dX1_comesAhead_10 rfl rfl ?_
    refine g_if_ne 16 18 C dX1_comesAhead_13 (by decide) rfl hF (fun hF => ?_) (fun hF => ?_)
    · refine g_aload_n 19 C dX1_comesAhead_18 rfl rfl rfl ?_
      refine g_get 22 C (own := RX1) (C1 := RX1) (T := TX1) 0 3 (.ref (ad 3)) kiX1_comesAhead_X1 kfX1_comesAhead_22 rfl dX1_comesAhead_19 rfl rfl rfl (by decide) rfl ?_
      refine g_iload_n 23 C dX1_comesAhead_22 rfl rfl rfl ?_
      obtain ⟨h5, hF⟩ := sg_grdE hF
      refine g_ialdc 24 C 3 (x1.toNatClampNeg) (σ 3 x1.toNatClampNeg) dX1_comesAhead_23 rfl rfl rfl h5 rfl ?_
      refine g_aload_n 25 C dX1_comesAhead_24 rfl rfl rfl ?_
      refine g_get 28 C (own := RX1) (C1 := RX1) (T := TX1) 0 3 (.ref (ad 3)) kiX1_comesAhead_X1 kfX1_comesAhead_22 rfl dX1_comesAhead_25 rfl rfl rfl (by decide) rfl ?_
      refine g_iload_n 29 C dX1_comesAhead_28 rfl rfl rfl ?_
      obtain ⟨h6, hF⟩ := sg_grdE hF
      refine g_ialdc 30 C 3 (x2.toNatClampNeg) (σ 3 x2.toNatClampNeg) dX1_comesAhead_29 rfl rfl rfl h6 rfl ?_
      refine g_icmp_eq 33 54 C dX1_comesAhead_30 (by decide) rfl hF (fun hF => ?_) (fun hF => ?_)
      · refine g_aload_n 55 C dX1_comesAhead_54 rfl rfl rfl ?_
        refine g_get 58 C (own := RX1) (C1 := RX1) (T := TX1) 0 2 (.ref (ad 2)) kiX1_comesAhead_X1 kfX1_comesAhead_19 rfl dX1_comesAhead_55 rfl rfl rfl (by decide) rfl ?_
        refine g_iload_n 59 C dX1_comesAhead_58 rfl rfl rfl ?_
        refine g_ialdc 60 C 2 (x1.toNatClampNeg) (σ 2 x1.toNatClampNeg) dX1_comesAhead_59 rfl rfl rfl h5 rfl ?_
        refine g_aload_n 61 C dX1_comesAhead_60 rfl rfl rfl ?_
        refine g_get 64 C (own := RX1) (C1 := RX1) (T := TX1) 0 2 (.ref (ad 2)) kiX1_comesAhead_X1 kfX1_comesAhead_19 rfl dX1_comesAhead_61 rfl rfl rfl (by decide) rfl ?_
        refine g_iload_n 65 C dX1_comesAhead_64 rfl rfl rfl ?_
        refine g_ialdc 66 C 2 (x2.toNatClampNeg) (σ 2 x2.toNatClampNeg) dX1_comesAhead_65 rfl rfl rfl h6 rfl ?_
        refine g_icmp_eq 69 92 C dX1_comesAhead_66 (by decide) rfl hF (fun hF => ?_) (fun hF => ?_)
        · refine g_iload_n 93 C dX1_comesAhead_92 rfl rfl rfl ?_
          refine g_iload_n 94 C dX1_comesAhead_93 rfl rfl rfl ?_
          refine g_icmp_ge 97 101 C dX1_comesAhead_94 (by decide) rfl hF (fun hF => ?_) (fun hF => ?_)
          · refine g_iconst 102 C 0 dX1_comesAhead_101 rfl (by decide) ?_
            have e1 := sg_someE hF
            exact g_iret C hr rfl hQ hsz dX1_comesAhead_102 e1.symm rfl
          · refine g_iconst 98 C 1 dX1_comesAhead_97 rfl (by decide) ?_
            refine g_goto 102 C dX1_comesAhead_98 (by decide) ?_
            have e1 := sg_someE hF
            exact g_iret C hr rfl hQ hsz dX1_comesAhead_102 e1.symm rfl
        · refine g_aload_n 70 C dX1_comesAhead_69 rfl rfl rfl ?_
          refine g_get 73 C (own := RX1) (C1 := RX1) (T := TX1) 0 2 (.ref (ad 2)) kiX1_comesAhead_X1 kfX1_comesAhead_19 rfl dX1_comesAhead_70 rfl rfl rfl (by decide) rfl ?_
          refine g_iload_n 74 C dX1_comesAhead_73 rfl rfl rfl ?_
          refine g_ialdc 75 C 2 (x1.toNatClampNeg) (σ 2 x1.toNatClampNeg) dX1_comesAhead_74 rfl rfl rfl h5 rfl ?_
          refine g_aload_n 76 C dX1_comesAhead_75 rfl rfl rfl ?_
          refine g_get 79 C (own := RX1) (C1 := RX1) (T := TX1) 0 2 (.ref (ad 2)) kiX1_comesAhead_X1 kfX1_comesAhead_19 rfl dX1_comesAhead_76 rfl rfl rfl (by decide) rfl ?_
          refine g_iload_n 80 C dX1_comesAhead_79 rfl rfl rfl ?_
          refine g_ialdc 81 C 2 (x2.toNatClampNeg) (σ 2 x2.toNatClampNeg) dX1_comesAhead_80 rfl rfl rfl h6 rfl ?_
          refine g_icmp_le 84 88 C dX1_comesAhead_81 (by decide) rfl hF (fun hF => ?_) (fun hF => ?_)
          · refine g_iconst 89 C 0 dX1_comesAhead_88 rfl (by decide) ?_
            refine g_goto 102 C dX1_comesAhead_89 (by decide) ?_
            have e1 := sg_someE hF
            exact g_iret C hr rfl hQ hsz dX1_comesAhead_102 e1.symm rfl
          · refine g_iconst 85 C 1 dX1_comesAhead_84 rfl (by decide) ?_
            refine g_goto 102 C dX1_comesAhead_85 (by decide) ?_
            have e1 := sg_someE hF
            exact g_iret C hr rfl hQ hsz dX1_comesAhead_102 e1.symm rfl
      · refine g_aload_n 34 C dX1_comesAhead_33 rfl rfl rfl ?_
        refine g_get 37 C (own := RX1) (C1 := RX1) (T := TX1) 0 3 (.ref (ad 3)) kiX1_comesAhead_X1 kfX1_comesAhead_22 rfl dX1_comesAhead_34 rfl rfl rfl (by decide) rfl ?_
        refine g_iload_n 38 C dX1_comesAhead_37 rfl rfl rfl ?_
        refine g_ialdc 39 C 3 (x1.toNatClampNeg) (σ 3 x1.toNatClampNeg) dX1_comesAhead_38 rfl rfl rfl h5 rfl ?_
        refine g_aload_n 40 C dX1_comesAhead_39 rfl rfl rfl ?_
        refine g_get 43 C (own := RX1) (C1 := RX1) (T := TX1) 0 3 (.ref (ad 3)) kiX1_comesAhead_X1 kfX1_comesAhead_22 rfl dX1_comesAhead_40 rfl rfl rfl (by decide) rfl ?_
        refine g_iload_n 44 C dX1_comesAhead_43 rfl rfl rfl ?_
        refine g_ialdc 45 C 3 (x2.toNatClampNeg) (σ 3 x2.toNatClampNeg) dX1_comesAhead_44 rfl rfl rfl h6 rfl ?_
        refine g_icmp_ge 48 52 C dX1_comesAhead_45 (by decide) rfl hF (fun hF => ?_) (fun hF => ?_)
        · refine g_iconst 53 C 0 dX1_comesAhead_52 rfl (by decide) ?_
          have e1 := sg_someE hF
          exact g_iret C hr rfl hQ hsz dX1_comesAhead_53 e1.symm rfl
        · refine g_iconst 49 C 1 dX1_comesAhead_48 rfl (by decide) ?_
          refine g_goto 53 C dX1_comesAhead_49 (by decide) ?_
          have e1 := sg_someE hF
          exact g_iret C hr rfl hQ hsz dX1_comesAhead_53 e1.symm rfl
    · refine g_iconst 17 C 0 dX1_comesAhead_16 rfl (by decide) ?_
      have e1 := sg_someE hF
      exact g_iret C hr rfl hQ hsz dX1_comesAhead_17 e1.symm rfl
theorem kiX1_placeOf_X1 : ∀ w ∈ u_ws RX1 TX1 4, w ∈ wsX1_placeOf := by decide +kernel
theorem kfX1_placeOf_9 : Cond.fieldLink RX1 9 "WeatherMinistry$Credits" "count" "I" ∈ wsX1_placeOf := by decide +kernel
def f_X1_placeOf_L4 (x1 : Int32) (σ : sg_S) : Nat → Int32 → Int32 → Option Int32
  | 0, _, _ => none
  | nz + 1, z2, z3 => (if z3 < σ 0 0 then sg_bnd (f_X1_comesAhead z3 x1 σ) (fun r1 => (if r1 = 0 then f_X1_placeOf_L4 x1 σ nz z2 (z3 + 1) else f_X1_placeOf_L4 x1 σ nz (z2 + 1) (z3 + 1))) else some z2)
def f_X1_placeOf (x1 : Int32) (σ : sg_S) : Option Int32 := f_X1_placeOf_L4 x1 σ 1000 0 0
set_option maxHeartbeats 4000000 in
set_option maxRecDepth 100000 in
theorem c_X1_placeOf (l : Launch) {D : va_G} {Y : Nat → ClassId} {Z : (Nat → Prop) → State → Heap → Prop} (hZ : sg_Zok Z) {ad : Nat → Nat} {σ : sg_S} {x1 : Int32} {r : Int32} (hF : f_X1_placeOf x1 σ = some r) : sg_MI l yX1_placeOf wsX1_placeOf 2 43 D Y Z [.ref (ad 0), .int x1] (ww_X1 Y ad σ) r (ww_X1 Y ad σ) := by
  intro sz
  refine sg_enter (own := RX1) (maxL := 4) (ret := (some .int)) (cc := cX1_placeOf) (by decide +kernel) rfl rfl (Nat.le_of_ble_eq_true rfl) hZ ?_
  intro p e s m args below meth c C hr Q hQ hsz
  refine g_lv (lv2 := [(0, .ref (ad 0)), (1, .int x1)]) [0, 1] rfl ?_
  have K4 : ∀ (nz : Nat), ∀ (z2 : Int32) (z3 : Int32), f_X1_placeOf_L4 x1 σ nz z2 z3 = some r → sg_G p l e ({ frames := 2, cells := 0, slots := 0, locals := 43 } : Room) s m args below meth c D (va_A (ww_X1 Y ad σ) s.heap.size) 4 0 0 Q 4 [(0, .ref (ad 0)), (1, .int x1), (2, .int z2), (3, .int z3)] [] (ww_X1 Y ad σ) := by
    intro nz
    induction nz with
    | zero =>
      intro z2 z3 hF
      rw [f_X1_placeOf_L4.eq_1] at hF
      exact nomatch hF
    | succ nz ih =>
      intro z2 z3 hF
      rw [f_X1_placeOf_L4.eq_2] at hF
      refine g_iload_n 5 C dX1_placeOf_4 rfl rfl rfl ?_
      refine g_aload_n 6 C dX1_placeOf_5 rfl rfl rfl ?_
      refine g_get 9 C (own := RX1) (C1 := RX1) (T := TX1) 0 0 (.int (σ 0 0)) kiX1_placeOf_X1 kfX1_placeOf_9 rfl dX1_placeOf_6 rfl rfl rfl (by decide) rfl ?_
      refine g_icmp_ge 12 30 C dX1_placeOf_9 (by decide) rfl hF (fun hF => ?_) (fun hF => ?_)
      · refine g_iload_n 31 C dX1_placeOf_30 rfl rfl rfl ?_
        have e1 := sg_someE hF
        exact g_iret C hr rfl hQ hsz dX1_placeOf_31 e1.symm rfl
      · refine g_aload_n 13 C dX1_placeOf_12 rfl rfl rfl ?_
        refine g_iload_n 14 C dX1_placeOf_13 rfl rfl rfl ?_
        refine g_iload_n 15 C dX1_placeOf_14 rfl rfl rfl ?_
        obtain ⟨r1, q2, hF⟩ := sg_bndE hF
        refine g_callVi 18 C (w2 := (ww_X1 Y ad σ)) (As := [.int z3, .int x1]) (st := []) (n0 := 2) (ci := 3) (q0 := 0) [0, 1, 2, 3] [] [0, 1, 2, 3] (c_X1_comesAhead l hZ (ad := ad) q2) gX1_placeOf_X1_comesAhead ⟨rfl, by decide +kernel, by decide +kernel, rfl⟩ rfl ⟨Nat.le_of_ble_eq_true rfl, Nat.le_of_ble_eq_true rfl⟩ rfl rfl ⟨rfl, rfl, rfl, by decide, rfl, rfl⟩ rfl rfl (Nat.le_of_ble_eq_true rfl) ⟨Nat.le_refl _, Nat.le_refl _⟩ dX1_placeOf_15 rfl rfl ?_
        refine g_if_eq 21 24 C dX1_placeOf_18 (by decide) rfl hF (fun hF => ?_) (fun hF => ?_)
        · refine g_iinc 27 C 3 (z3 + 1) [(3, .int (z3 + 1)), (0, .ref (ad 0)), (1, .int x1), (2, .int z2)] dX1_placeOf_24 rfl rfl rfl (by decide) rfl ?_
          refine g_goto 4 C dX1_placeOf_27 (by decide) ?_
          refine g_lv (lv2 := [(0, .ref (ad 0)), (1, .int x1), (2, .int z2), (3, .int (z3 + 1))]) [1, 2, 3, 0] rfl ?_
          exact ih z2 (z3 + 1) hF
        · refine g_iinc 24 C 2 (z2 + 1) [(2, .int (z2 + 1)), (0, .ref (ad 0)), (1, .int x1), (3, .int z3)] dX1_placeOf_21 rfl rfl rfl (by decide) rfl ?_
          refine g_iinc 27 C 3 (z3 + 1) [(3, .int (z3 + 1)), (2, .int (z2 + 1)), (0, .ref (ad 0)), (1, .int x1)] dX1_placeOf_24 rfl rfl rfl (by decide) rfl ?_
          refine g_goto 4 C dX1_placeOf_27 (by decide) ?_
          refine g_lv (lv2 := [(0, .ref (ad 0)), (1, .int x1), (2, .int (z2 + 1)), (3, .int (z3 + 1))]) [2, 3, 1, 0] rfl ?_
          exact ih (z2 + 1) (z3 + 1) hF
  rw [f_X1_placeOf] at hF
  refine g_iconst 1 C 0 dX1_placeOf_0 rfl (by decide) ?_
  refine g_istore_n 2 C [(2, .int 0), (0, .ref (ad 0)), (1, .int x1)] dX1_placeOf_1 rfl rfl (by decide) rfl ?_
  refine g_iconst 3 C 0 dX1_placeOf_2 rfl (by decide) ?_
  refine g_istore_n 4 C [(3, .int 0), (2, .int 0), (0, .ref (ad 0)), (1, .int x1)] dX1_placeOf_3 rfl rfl (by decide) rfl ?_
  refine g_lv (lv2 := [(0, .ref (ad 0)), (1, .int x1), (2, .int 0), (3, .int 0)]) [2, 3, 1, 0] rfl ?_
  exact K4  1000 0 0 hF
