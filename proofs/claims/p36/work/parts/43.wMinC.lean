theorem kiX7_change_X7 : ∀ w ∈ u_ws RX7 TX7 10, w ∈ wsX7_change := by decide +kernel
theorem kfX7_change_16 : Cond.fieldLink RX7 16 "WeatherMinistry" "before" "LWeatherMinistry$Realm;" ∈ wsX7_change := by decide +kernel
theorem kfX7_change_10 : Cond.fieldLink RX7 10 "WeatherMinistry" "now" "LWeatherMinistry$Realm;" ∈ wsX7_change := by decide +kernel
theorem kfX7_change_32 : Cond.fieldLink RX7 32 "WeatherMinistry" "history" "LWeatherMinistry$History;" ∈ wsX7_change := by decide +kernel
def f_X7_change (x1 : Int32) (x2 : Int32) (x3 : Int32) (x4 : Int32) (σ : sg_S) : Option (Int32 × sg_S) := sg_bnd (f_X3_copyFrom  (sg_e2 13 15 1 σ)) (fun τ1 => sg_let (sg_m2 15 13 1 13 σ τ1) (fun σ3 => sg_bnd2 (f_X7_perform x1 x2 x3 x4 σ3) (fun r6 τ4 => sg_let (sg_m1 0 15 σ3 τ4) (fun σ7 => (if 0 ≤ r6 then sg_bnd (f_X2_keep  (sg_e2 106 54 15 σ7)) (fun τ8 => sg_let (sg_m2 54 106 15 13 σ7 τ8) (fun σ10 => some (r6, σ10))) else some (r6, σ7))))))
set_option maxHeartbeats 4000000 in
set_option maxRecDepth 100000 in
theorem c_X7_change (l : Launch) {D : va_G} {Y : Nat → ClassId} {Z : (Nat → Prop) → State → Heap → Prop} (hZ : sg_Zok Z) {ad : Nat → Nat} {σ : sg_S} {σ' : sg_S} {x1 x2 x3 x4 : Int32} {r : Int32} (hF : f_X7_change x1 x2 x3 x4 σ = some (r, σ')) : sg_MI l yX7_change wsX7_change 5 122 D Y Z [.ref (ad 0), .int x1, .int x2, .int x3, .int x4] (ww_X7TNLBH Y ad σ) r (ww_X7TNLBH Y ad σ') := by
  intro sz
  refine sg_enter (own := RX7) (maxL := 6) (ret := (some .int)) (cc := cX7_change) (by decide +kernel) rfl rfl (Nat.le_of_ble_eq_true rfl) hZ ?_
  intro p e s m args below meth c C hr Q hQ hsz
  refine g_lv (lv2 := [(0, .ref (ad 0)), (1, .int x1), (2, .int x2), (3, .int x3), (4, .int x4)]) [0, 1, 2, 3, 4] rfl ?_
  rw [f_X7_change] at hF
  refine g_aload_n 1 C dX7_change_0 rfl rfl rfl ?_
  refine g_get 4 C (own := RX7) (C1 := RX7) (T := TX7) 0 1 (.ref (ad 15)) kiX7_change_X7 kfX7_change_16 rfl dX7_change_1 rfl rfl rfl (by decide) rfl ?_
  refine g_aload_n 5 C dX7_change_4 rfl rfl rfl ?_
  refine g_get 8 C (own := RX7) (C1 := RX7) (T := TX7) 0 0 (.ref (ad 1)) kiX7_change_X7 kfX7_change_10 rfl dX7_change_5 rfl rfl rfl (by decide) rfl ?_
  obtain ⟨τ1, q2, hF⟩ := sg_bndE hF
  obtain ⟨σ3, eσ3, hF⟩ := sg_letE hF
  refine g_callVvP 11 C (w2 := (ww_X7TNLBH Y ad σ3)) (As := [.ref (ad 1)]) (st := []) (n0 := 1) (ci := 5) (q0 := 15) (c_X3_copyFrom l hZ (ad := (sg_e2 13 15 1 ad)) q2) gX7_change_X3_copyFrom ⟨rfl, by decide +kernel, by decide +kernel, rfl⟩ rfl ⟨Nat.le_of_ble_eq_true rfl, Nat.le_of_ble_eq_true rfl⟩ rfl rfl (by subst eσ3; exact sg_cutB (bk_7 Y ad σ) (bk_7 Y ad (sg_m2 15 13 1 13 σ τ1)) [0, 1, 2, 3, 6, 7, 8, 9, 10, 11, 12, 13, 14, 15] [3, 1] [0, 2, 6, 7, 8, 9, 10, 11, 12, 13, 14, 15] rfl (by decide) rfl rfl rfl rfl) rfl (Nat.le_of_ble_eq_true rfl) ⟨Nat.le_refl _, Nat.le_refl _⟩ dX7_change_8 rfl rfl ?_
  refine g_aload_n 12 C dX7_change_11 rfl rfl rfl ?_
  refine g_iload_n 13 C dX7_change_12 rfl rfl rfl ?_
  refine g_iload_n 14 C dX7_change_13 rfl rfl rfl ?_
  refine g_iload_n 15 C dX7_change_14 rfl rfl rfl ?_
  refine g_iload 17 C dX7_change_15 rfl rfl ?_
  obtain ⟨r6, τ4, q5, hF⟩ := sg_bnd2E hF
  obtain ⟨σ7, eσ7, hF⟩ := sg_letE hF
  refine g_callViP 20 C (w2 := (ww_X7TNLBH Y ad σ7)) (As := [.int x1, .int x2, .int x3, .int x4]) (st := []) (n0 := 4) (ci := 9) (q0 := 0) (c_X7_perform l hZ (ad := ad) q5) gX7_change_X7_perform ⟨rfl, by decide +kernel, by decide +kernel, rfl⟩ rfl ⟨Nat.le_of_ble_eq_true rfl, Nat.le_of_ble_eq_true rfl⟩ rfl rfl (by subst eσ7; exact sg_cutB (bk_7 Y ad σ3) (bk_7 Y ad (sg_m1 0 15 σ3 τ4)) [0, 1, 2, 3, 6, 7, 8, 9, 10, 11, 12, 13, 14, 15] [0, 1, 2] [3, 6, 7, 8, 9, 10, 11, 12, 13, 14, 15] rfl (by decide) rfl rfl rfl rfl) rfl (Nat.le_of_ble_eq_true rfl) ⟨Nat.le_refl _, Nat.le_refl _⟩ dX7_change_17 rfl rfl ?_
  refine g_istore 22 C [(5, .int r6), (0, .ref (ad 0)), (1, .int x1), (2, .int x2), (3, .int x3), (4, .int x4)] dX7_change_20 rfl (by decide) rfl ?_
  refine g_iload 24 C dX7_change_22 rfl rfl ?_
  refine g_if_lt 27 38 C dX7_change_24 (by decide) rfl hF (fun hF => ?_) (fun hF => ?_)
  · refine g_iload 40 C dX7_change_38 rfl rfl ?_
    obtain ⟨e1, e2⟩ := sg_pairE hF
    exact g_iret C hr rfl hQ hsz dX7_change_40 e1.symm (by rw [e2])
  · refine g_aload_n 28 C dX7_change_27 rfl rfl rfl ?_
    refine g_get 31 C (own := RX7) (C1 := RX7) (T := TX7) 0 5 (.ref (ad 54)) kiX7_change_X7 kfX7_change_32 rfl dX7_change_28 rfl rfl rfl (by decide) rfl ?_
    refine g_aload_n 32 C dX7_change_31 rfl rfl rfl ?_
    refine g_get 35 C (own := RX7) (C1 := RX7) (T := TX7) 0 1 (.ref (ad 15)) kiX7_change_X7 kfX7_change_16 rfl dX7_change_32 rfl rfl rfl (by decide) rfl ?_
    obtain ⟨τ8, q9, hF⟩ := sg_bndE hF
    obtain ⟨σ10, eσ10, hF⟩ := sg_letE hF
    refine g_callVvP 38 C (w2 := (ww_X7TNLBH Y ad σ10)) (As := [.ref (ad 15)]) (st := []) (n0 := 1) (ci := 4) (q0 := 28) (sg_MVe (c_X2_keep l hZ (ad := (sg_e2 106 54 15 ad)) q9) (sg_eqCons (sg_eqRow (f2 := fun i => some (ad (56 + 13 * i))) (sg_rowH ad _))) (sg_eqCons (sg_eqRow (f2 := fun i => some (ad (56 + 13 * i))) (sg_rowH ad _)))) gX7_change_X2_keep ⟨rfl, by decide +kernel, by decide +kernel, rfl⟩ rfl ⟨Nat.le_of_ble_eq_true rfl, Nat.le_of_ble_eq_true rfl⟩ rfl rfl (by subst eσ10; exact sg_cutB (bk_7 Y ad σ7) (bk_7 Y ad (sg_m2 54 106 15 13 σ7 τ8)) [0, 1, 2, 3, 6, 7, 8, 9, 10, 11, 12, 13, 14, 15] [6, 7, 8, 9, 10, 11, 12, 13, 14, 15, 3] [0, 1, 2] rfl (by decide) rfl rfl rfl rfl) rfl (Nat.le_of_ble_eq_true rfl) ⟨Nat.le_refl _, Nat.le_refl _⟩ dX7_change_35 rfl rfl ?_
    refine g_iload 40 C dX7_change_38 rfl rfl ?_
    obtain ⟨e1, e2⟩ := sg_pairE hF
    exact g_iret C hr rfl hQ hsz dX7_change_40 e1.symm (by rw [e2])
def f_X7_treaty (x1 : Int32) (x2 : Int32) (x3 : Int32) (σ : sg_S) : Option (Int32 × sg_S) := (if x3 = 0 then sg_bnd2 (f_X7_change 1 x1 x2 0 σ) (fun r3 τ1 => some (r3, τ1)) else sg_bnd2 (f_X7_change 0 x1 x2 0 σ) (fun r6 τ4 => some (r6, τ4)))
set_option maxHeartbeats 4000000 in
set_option maxRecDepth 100000 in
theorem c_X7_treaty (l : Launch) {D : va_G} {Y : Nat → ClassId} {Z : (Nat → Prop) → State → Heap → Prop} (hZ : sg_Zok Z) {ad : Nat → Nat} {σ : sg_S} {σ' : sg_S} {x1 x2 x3 : Int32} {r : Int32} (hF : f_X7_treaty x1 x2 x3 σ = some (r, σ')) : sg_MI l yX7_treaty wsX7_treaty 6 147 D Y Z [.ref (ad 0), .int x1, .int x2, .int x3] (ww_X7TNLBH Y ad σ) r (ww_X7TNLBH Y ad σ') := by
  intro sz
  refine sg_enter (own := RX7) (maxL := 4) (ret := (some .int)) (cc := cX7_treaty) (by decide +kernel) rfl rfl (Nat.le_of_ble_eq_true rfl) hZ ?_
  intro p e s m args below meth c C hr Q hQ hsz
  refine g_lv (lv2 := [(0, .ref (ad 0)), (1, .int x1), (2, .int x2), (3, .int x3)]) [0, 1, 2, 3] rfl ?_
  rw [f_X7_treaty] at hF
  refine g_aload_n 1 C dX7_treaty_0 rfl rfl rfl ?_
  refine g_iload_n 2 C dX7_treaty_1 rfl rfl rfl ?_
  refine g_if_eq 5 9 C dX7_treaty_2 (by decide) rfl hF (fun hF => ?_) (fun hF => ?_)
  · refine g_iconst 10 C 1 dX7_treaty_9 rfl (by decide) ?_
    refine g_iload_n 11 C dX7_treaty_10 rfl rfl rfl ?_
    refine g_iload_n 12 C dX7_treaty_11 rfl rfl rfl ?_
    refine g_iconst 13 C 0 dX7_treaty_12 rfl (by decide) ?_
    obtain ⟨r3, τ1, q2, hF⟩ := sg_bnd2E hF
    refine g_callViP 16 C (w2 := (ww_X7TNLBH Y ad τ1)) (As := [.int 1, .int x1, .int x2, .int 0]) (st := []) (n0 := 4) (ci := 9) (q0 := 0) (c_X7_change l hZ (ad := ad) q2) gX7_treaty_X7_change ⟨rfl, by decide +kernel, by decide +kernel, rfl⟩ rfl ⟨Nat.le_of_ble_eq_true rfl, Nat.le_of_ble_eq_true rfl⟩ rfl rfl (by exact sg_cutB (bk_7 Y ad σ) (bk_7 Y ad τ1) [0, 1, 2, 3, 6, 7, 8, 9, 10, 11, 12, 13, 14, 15] [0, 1, 2, 3, 6, 7, 8, 9, 10, 11, 12, 13, 14, 15] [] rfl (by decide) rfl rfl rfl rfl) rfl (Nat.le_of_ble_eq_true rfl) ⟨Nat.le_refl _, Nat.le_refl _⟩ dX7_treaty_13 rfl rfl ?_
    obtain ⟨e1, e2⟩ := sg_pairE hF
    exact g_iret C hr rfl hQ hsz dX7_treaty_16 e1.symm (by rw [e2])
  · refine g_iconst 6 C 0 dX7_treaty_5 rfl (by decide) ?_
    refine g_goto 10 C dX7_treaty_6 (by decide) ?_
    refine g_iload_n 11 C dX7_treaty_10 rfl rfl rfl ?_
    refine g_iload_n 12 C dX7_treaty_11 rfl rfl rfl ?_
    refine g_iconst 13 C 0 dX7_treaty_12 rfl (by decide) ?_
    obtain ⟨r6, τ4, q5, hF⟩ := sg_bnd2E hF
    refine g_callViP 16 C (w2 := (ww_X7TNLBH Y ad τ4)) (As := [.int 0, .int x1, .int x2, .int 0]) (st := []) (n0 := 4) (ci := 9) (q0 := 0) (c_X7_change l hZ (ad := ad) q5) gX7_treaty_X7_change ⟨rfl, by decide +kernel, by decide +kernel, rfl⟩ rfl ⟨Nat.le_of_ble_eq_true rfl, Nat.le_of_ble_eq_true rfl⟩ rfl rfl (by exact sg_cutB (bk_7 Y ad σ) (bk_7 Y ad τ4) [0, 1, 2, 3, 6, 7, 8, 9, 10, 11, 12, 13, 14, 15] [0, 1, 2, 3, 6, 7, 8, 9, 10, 11, 12, 13, 14, 15] [] rfl (by decide) rfl rfl rfl rfl) rfl (Nat.le_of_ble_eq_true rfl) ⟨Nat.le_refl _, Nat.le_refl _⟩ dX7_treaty_13 rfl rfl ?_
    obtain ⟨e1, e2⟩ := sg_pairE hF
    exact g_iret C hr rfl hQ hsz dX7_treaty_16 e1.symm (by rw [e2])
def f_X7_credit (x1 : Int32) (x2 : Int32) (x3 : Int32) (σ : sg_S) : Option (Int32 × sg_S) := sg_bnd2 (f_X7_change 2 x1 x2 x3 σ) (fun r3 τ1 => some (r3, τ1))
set_option maxHeartbeats 4000000 in
set_option maxRecDepth 100000 in
theorem c_X7_credit (l : Launch) {D : va_G} {Y : Nat → ClassId} {Z : (Nat → Prop) → State → Heap → Prop} (hZ : sg_Zok Z) {ad : Nat → Nat} {σ : sg_S} {σ' : sg_S} {x1 x2 x3 : Int32} {r : Int32} (hF : f_X7_credit x1 x2 x3 σ = some (r, σ')) : sg_MI l yX7_credit wsX7_credit 6 147 D Y Z [.ref (ad 0), .int x1, .int x2, .int x3] (ww_X7TNLBH Y ad σ) r (ww_X7TNLBH Y ad σ') := by
  intro sz
  refine sg_enter (own := RX7) (maxL := 4) (ret := (some .int)) (cc := cX7_credit) (by decide +kernel) rfl rfl (Nat.le_of_ble_eq_true rfl) hZ ?_
  intro p e s m args below meth c C hr Q hQ hsz
  refine g_lv (lv2 := [(0, .ref (ad 0)), (1, .int x1), (2, .int x2), (3, .int x3)]) [0, 1, 2, 3] rfl ?_
  rw [f_X7_credit] at hF
  refine g_aload_n 1 C dX7_credit_0 rfl rfl rfl ?_
  refine g_iconst 2 C 2 dX7_credit_1 rfl (by decide) ?_
  refine g_iload_n 3 C dX7_credit_2 rfl rfl rfl ?_
  refine g_iload_n 4 C dX7_credit_3 rfl rfl rfl ?_
  refine g_iload_n 5 C dX7_credit_4 rfl rfl rfl ?_
  obtain ⟨r3, τ1, q2, hF⟩ := sg_bnd2E hF
  refine g_callViP 8 C (w2 := (ww_X7TNLBH Y ad τ1)) (As := [.int 2, .int x1, .int x2, .int x3]) (st := []) (n0 := 4) (ci := 9) (q0 := 0) (c_X7_change l hZ (ad := ad) q2) gX7_credit_X7_change ⟨rfl, by decide +kernel, by decide +kernel, rfl⟩ rfl ⟨Nat.le_of_ble_eq_true rfl, Nat.le_of_ble_eq_true rfl⟩ rfl rfl (by exact sg_cutB (bk_7 Y ad σ) (bk_7 Y ad τ1) [0, 1, 2, 3, 6, 7, 8, 9, 10, 11, 12, 13, 14, 15] [0, 1, 2, 3, 6, 7, 8, 9, 10, 11, 12, 13, 14, 15] [] rfl (by decide) rfl rfl rfl rfl) rfl (Nat.le_of_ble_eq_true rfl) ⟨Nat.le_refl _, Nat.le_refl _⟩ dX7_credit_5 rfl rfl ?_
  obtain ⟨e1, e2⟩ := sg_pairE hF
  exact g_iret C hr rfl hQ hsz dX7_credit_8 e1.symm (by rw [e2])
def f_X7_repay (x1 : Int32) (σ : sg_S) : Option (Int32 × sg_S) := sg_bnd2 (f_X7_change 3 x1 0 0 σ) (fun r3 τ1 => some (r3, τ1))
set_option maxHeartbeats 4000000 in
set_option maxRecDepth 100000 in
theorem c_X7_repay (l : Launch) {D : va_G} {Y : Nat → ClassId} {Z : (Nat → Prop) → State → Heap → Prop} (hZ : sg_Zok Z) {ad : Nat → Nat} {σ : sg_S} {σ' : sg_S} {x1 : Int32} {r : Int32} (hF : f_X7_repay x1 σ = some (r, σ')) : sg_MI l yX7_repay wsX7_repay 6 147 D Y Z [.ref (ad 0), .int x1] (ww_X7TNLBH Y ad σ) r (ww_X7TNLBH Y ad σ') := by
  intro sz
  refine sg_enter (own := RX7) (maxL := 2) (ret := (some .int)) (cc := cX7_repay) (by decide +kernel) rfl rfl (Nat.le_of_ble_eq_true rfl) hZ ?_
  intro p e s m args below meth c C hr Q hQ hsz
  refine g_lv (lv2 := [(0, .ref (ad 0)), (1, .int x1)]) [0, 1] rfl ?_
  rw [f_X7_repay] at hF
  refine g_aload_n 1 C dX7_repay_0 rfl rfl rfl ?_
  refine g_iconst 2 C 3 dX7_repay_1 rfl (by decide) ?_
  refine g_iload_n 3 C dX7_repay_2 rfl rfl rfl ?_
  refine g_iconst 4 C 0 dX7_repay_3 rfl (by decide) ?_
  refine g_iconst 5 C 0 dX7_repay_4 rfl (by decide) ?_
  obtain ⟨r3, τ1, q2, hF⟩ := sg_bnd2E hF
  refine g_callViP 8 C (w2 := (ww_X7TNLBH Y ad τ1)) (As := [.int 3, .int x1, .int 0, .int 0]) (st := []) (n0 := 4) (ci := 9) (q0 := 0) (c_X7_change l hZ (ad := ad) q2) gX7_repay_X7_change ⟨rfl, by decide +kernel, by decide +kernel, rfl⟩ rfl ⟨Nat.le_of_ble_eq_true rfl, Nat.le_of_ble_eq_true rfl⟩ rfl rfl (by exact sg_cutB (bk_7 Y ad σ) (bk_7 Y ad τ1) [0, 1, 2, 3, 6, 7, 8, 9, 10, 11, 12, 13, 14, 15] [0, 1, 2, 3, 6, 7, 8, 9, 10, 11, 12, 13, 14, 15] [] rfl (by decide) rfl rfl rfl rfl) rfl (Nat.le_of_ble_eq_true rfl) ⟨Nat.le_refl _, Nat.le_refl _⟩ dX7_repay_5 rfl rfl ?_
  obtain ⟨e1, e2⟩ := sg_pairE hF
  exact g_iret C hr rfl hQ hsz dX7_repay_8 e1.symm (by rw [e2])
def f_X7_rain (x1 : Int32) (x2 : Int32) (σ : sg_S) : Option (Int32 × sg_S) := sg_bnd2 (f_X7_change 4 x1 x2 0 σ) (fun r3 τ1 => some (r3, τ1))
set_option maxHeartbeats 4000000 in
set_option maxRecDepth 100000 in
theorem c_X7_rain (l : Launch) {D : va_G} {Y : Nat → ClassId} {Z : (Nat → Prop) → State → Heap → Prop} (hZ : sg_Zok Z) {ad : Nat → Nat} {σ : sg_S} {σ' : sg_S} {x1 x2 : Int32} {r : Int32} (hF : f_X7_rain x1 x2 σ = some (r, σ')) : sg_MI l yX7_rain wsX7_rain 6 147 D Y Z [.ref (ad 0), .int x1, .int x2] (ww_X7TNLBH Y ad σ) r (ww_X7TNLBH Y ad σ') := by
  intro sz
  refine sg_enter (own := RX7) (maxL := 3) (ret := (some .int)) (cc := cX7_rain) (by decide +kernel) rfl rfl (Nat.le_of_ble_eq_true rfl) hZ ?_
  intro p e s m args below meth c C hr Q hQ hsz
  refine g_lv (lv2 := [(0, .ref (ad 0)), (1, .int x1), (2, .int x2)]) [0, 1, 2] rfl ?_
  rw [f_X7_rain] at hF
  refine g_aload_n 1 C dX7_rain_0 rfl rfl rfl ?_
  refine g_iconst 2 C 4 dX7_rain_1 rfl (by decide) ?_
  refine g_iload_n 3 C dX7_rain_2 rfl rfl rfl ?_
  refine g_iload_n 4 C dX7_rain_3 rfl rfl rfl ?_
  refine g_iconst 5 C 0 dX7_rain_4 rfl (by decide) ?_
  obtain ⟨r3, τ1, q2, hF⟩ := sg_bnd2E hF
  refine g_callViP 8 C (w2 := (ww_X7TNLBH Y ad τ1)) (As := [.int 4, .int x1, .int x2, .int 0]) (st := []) (n0 := 4) (ci := 9) (q0 := 0) (c_X7_change l hZ (ad := ad) q2) gX7_rain_X7_change ⟨rfl, by decide +kernel, by decide +kernel, rfl⟩ rfl ⟨Nat.le_of_ble_eq_true rfl, Nat.le_of_ble_eq_true rfl⟩ rfl rfl (by exact sg_cutB (bk_7 Y ad σ) (bk_7 Y ad τ1) [0, 1, 2, 3, 6, 7, 8, 9, 10, 11, 12, 13, 14, 15] [0, 1, 2, 3, 6, 7, 8, 9, 10, 11, 12, 13, 14, 15] [] rfl (by decide) rfl rfl rfl rfl) rfl (Nat.le_of_ble_eq_true rfl) ⟨Nat.le_refl _, Nat.le_refl _⟩ dX7_rain_5 rfl rfl ?_
  obtain ⟨e1, e2⟩ := sg_pairE hF
  exact g_iret C hr rfl hQ hsz dX7_rain_8 e1.symm (by rw [e2])
def f_X7_bail (x1 : Int32) (x2 : Int32) (σ : sg_S) : Option (Int32 × sg_S) := sg_bnd2 (f_X7_change 5 x1 x2 0 σ) (fun r3 τ1 => some (r3, τ1))
set_option maxHeartbeats 4000000 in
set_option maxRecDepth 100000 in
theorem c_X7_bail (l : Launch) {D : va_G} {Y : Nat → ClassId} {Z : (Nat → Prop) → State → Heap → Prop} (hZ : sg_Zok Z) {ad : Nat → Nat} {σ : sg_S} {σ' : sg_S} {x1 x2 : Int32} {r : Int32} (hF : f_X7_bail x1 x2 σ = some (r, σ')) : sg_MI l yX7_bail wsX7_bail 6 147 D Y Z [.ref (ad 0), .int x1, .int x2] (ww_X7TNLBH Y ad σ) r (ww_X7TNLBH Y ad σ') := by
  intro sz
  refine sg_enter (own := RX7) (maxL := 3) (ret := (some .int)) (cc := cX7_bail) (by decide +kernel) rfl rfl (Nat.le_of_ble_eq_true rfl) hZ ?_
  intro p e s m args below meth c C hr Q hQ hsz
  refine g_lv (lv2 := [(0, .ref (ad 0)), (1, .int x1), (2, .int x2)]) [0, 1, 2] rfl ?_
  rw [f_X7_bail] at hF
  refine g_aload_n 1 C dX7_bail_0 rfl rfl rfl ?_
  refine g_iconst 2 C 5 dX7_bail_1 rfl (by decide) ?_
  refine g_iload_n 3 C dX7_bail_2 rfl rfl rfl ?_
  refine g_iload_n 4 C dX7_bail_3 rfl rfl rfl ?_
  refine g_iconst 5 C 0 dX7_bail_4 rfl (by decide) ?_
  obtain ⟨r3, τ1, q2, hF⟩ := sg_bnd2E hF
  refine g_callViP 8 C (w2 := (ww_X7TNLBH Y ad τ1)) (As := [.int 5, .int x1, .int x2, .int 0]) (st := []) (n0 := 4) (ci := 9) (q0 := 0) (c_X7_change l hZ (ad := ad) q2) gX7_bail_X7_change ⟨rfl, by decide +kernel, by decide +kernel, rfl⟩ rfl ⟨Nat.le_of_ble_eq_true rfl, Nat.le_of_ble_eq_true rfl⟩ rfl rfl (by exact sg_cutB (bk_7 Y ad σ) (bk_7 Y ad τ1) [0, 1, 2, 3, 6, 7, 8, 9, 10, 11, 12, 13, 14, 15] [0, 1, 2, 3, 6, 7, 8, 9, 10, 11, 12, 13, 14, 15] [] rfl (by decide) rfl rfl rfl rfl) rfl (Nat.le_of_ble_eq_true rfl) ⟨Nat.le_refl _, Nat.le_refl _⟩ dX7_bail_5 rfl rfl ?_
  obtain ⟨e1, e2⟩ := sg_pairE hF
  exact g_iret C hr rfl hQ hsz dX7_bail_8 e1.symm (by rw [e2])
def f_X7_buy (x1 : Int32) (σ : sg_S) : Option (Int32 × sg_S) := sg_bnd2 (f_X7_change 6 x1 0 0 σ) (fun r3 τ1 => some (r3, τ1))
set_option maxHeartbeats 4000000 in
set_option maxRecDepth 100000 in
theorem c_X7_buy (l : Launch) {D : va_G} {Y : Nat → ClassId} {Z : (Nat → Prop) → State → Heap → Prop} (hZ : sg_Zok Z) {ad : Nat → Nat} {σ : sg_S} {σ' : sg_S} {x1 : Int32} {r : Int32} (hF : f_X7_buy x1 σ = some (r, σ')) : sg_MI l yX7_buy wsX7_buy 6 147 D Y Z [.ref (ad 0), .int x1] (ww_X7TNLBH Y ad σ) r (ww_X7TNLBH Y ad σ') := by
  intro sz
  refine sg_enter (own := RX7) (maxL := 2) (ret := (some .int)) (cc := cX7_buy) (by decide +kernel) rfl rfl (Nat.le_of_ble_eq_true rfl) hZ ?_
  intro p e s m args below meth c C hr Q hQ hsz
  refine g_lv (lv2 := [(0, .ref (ad 0)), (1, .int x1)]) [0, 1] rfl ?_
  rw [f_X7_buy] at hF
  refine g_aload_n 1 C dX7_buy_0 rfl rfl rfl ?_
  refine g_bipush 3 C 6 dX7_buy_1 rfl (by decide) ?_
  refine g_iload_n 4 C dX7_buy_3 rfl rfl rfl ?_
  refine g_iconst 5 C 0 dX7_buy_4 rfl (by decide) ?_
  refine g_iconst 6 C 0 dX7_buy_5 rfl (by decide) ?_
  obtain ⟨r3, τ1, q2, hF⟩ := sg_bnd2E hF
  refine g_callViP 9 C (w2 := (ww_X7TNLBH Y ad τ1)) (As := [.int 6, .int x1, .int 0, .int 0]) (st := []) (n0 := 4) (ci := 9) (q0 := 0) (c_X7_change l hZ (ad := ad) q2) gX7_buy_X7_change ⟨rfl, by decide +kernel, by decide +kernel, rfl⟩ rfl ⟨Nat.le_of_ble_eq_true rfl, Nat.le_of_ble_eq_true rfl⟩ rfl rfl (by exact sg_cutB (bk_7 Y ad σ) (bk_7 Y ad τ1) [0, 1, 2, 3, 6, 7, 8, 9, 10, 11, 12, 13, 14, 15] [0, 1, 2, 3, 6, 7, 8, 9, 10, 11, 12, 13, 14, 15] [] rfl (by decide) rfl rfl rfl rfl) rfl (Nat.le_of_ble_eq_true rfl) ⟨Nat.le_refl _, Nat.le_refl _⟩ dX7_buy_6 rfl rfl ?_
  obtain ⟨e1, e2⟩ := sg_pairE hF
  exact g_iret C hr rfl hQ hsz dX7_buy_9 e1.symm (by rw [e2])
def f_X7_month  (σ : sg_S) : Option (Int32 × sg_S) := sg_bnd2 (f_X7_change 7 0 0 0 σ) (fun r3 τ1 => some (r3, τ1))
set_option maxHeartbeats 4000000 in
set_option maxRecDepth 100000 in
theorem c_X7_month (l : Launch) {D : va_G} {Y : Nat → ClassId} {Z : (Nat → Prop) → State → Heap → Prop} (hZ : sg_Zok Z) {ad : Nat → Nat} {σ : sg_S} {σ' : sg_S} {r : Int32} (hF : f_X7_month  σ = some (r, σ')) : sg_MI l yX7_month wsX7_month 6 147 D Y Z [.ref (ad 0)] (ww_X7TNLBH Y ad σ) r (ww_X7TNLBH Y ad σ') := by
  intro sz
  refine sg_enter (own := RX7) (maxL := 1) (ret := (some .int)) (cc := cX7_month) (by decide +kernel) rfl rfl (Nat.le_of_ble_eq_true rfl) hZ ?_
  intro p e s m args below meth c C hr Q hQ hsz
  refine g_lv (lv2 := [(0, .ref (ad 0))]) [0] rfl ?_
  rw [f_X7_month] at hF
  refine g_aload_n 1 C dX7_month_0 rfl rfl rfl ?_
  refine g_bipush 3 C 7 dX7_month_1 rfl (by decide) ?_
  refine g_iconst 4 C 0 dX7_month_3 rfl (by decide) ?_
  refine g_iconst 5 C 0 dX7_month_4 rfl (by decide) ?_
  refine g_iconst 6 C 0 dX7_month_5 rfl (by decide) ?_
  obtain ⟨r3, τ1, q2, hF⟩ := sg_bnd2E hF
  refine g_callViP 9 C (w2 := (ww_X7TNLBH Y ad τ1)) (As := [.int 7, .int 0, .int 0, .int 0]) (st := []) (n0 := 4) (ci := 9) (q0 := 0) (c_X7_change l hZ (ad := ad) q2) gX7_month_X7_change ⟨rfl, by decide +kernel, by decide +kernel, rfl⟩ rfl ⟨Nat.le_of_ble_eq_true rfl, Nat.le_of_ble_eq_true rfl⟩ rfl rfl (by exact sg_cutB (bk_7 Y ad σ) (bk_7 Y ad τ1) [0, 1, 2, 3, 6, 7, 8, 9, 10, 11, 12, 13, 14, 15] [0, 1, 2, 3, 6, 7, 8, 9, 10, 11, 12, 13, 14, 15] [] rfl (by decide) rfl rfl rfl rfl) rfl (Nat.le_of_ble_eq_true rfl) ⟨Nat.le_refl _, Nat.le_refl _⟩ dX7_month_6 rfl rfl ?_
  obtain ⟨e1, e2⟩ := sg_pairE hF
  exact g_iret C hr rfl hQ hsz dX7_month_9 e1.symm (by rw [e2])
theorem kiX7_undo_X7 : ∀ w ∈ u_ws RX7 TX7 10, w ∈ wsX7_undo := by decide +kernel
theorem kfX7_undo_32 : Cond.fieldLink RX7 32 "WeatherMinistry" "history" "LWeatherMinistry$History;" ∈ wsX7_undo := by decide +kernel
theorem kiX7_undo_X2 : ∀ w ∈ u_ws RX2 TX2 3, w ∈ wsX7_undo := by decide +kernel
theorem kfX7_undo_215 : Cond.fieldLink RX7 215 "WeatherMinistry$History" "count" "I" ∈ wsX7_undo := by decide +kernel
theorem kfX7_undo_10 : Cond.fieldLink RX7 10 "WeatherMinistry" "now" "LWeatherMinistry$Realm;" ∈ wsX7_undo := by decide +kernel
def f_X7_undo  (σ : sg_S) : Option (Int32 × sg_S) := (if σ 54 0 = 0 then some ((-3), σ) else sg_bnd (f_X2_takeBack  (sg_e2 106 54 1 σ)) (fun τ1 => sg_let (sg_m2 54 106 1 13 σ τ1) (fun σ3 => some (σ3 54 0, σ3))))
set_option maxHeartbeats 4000000 in
set_option maxRecDepth 100000 in
theorem c_X7_undo (l : Launch) {D : va_G} {Y : Nat → ClassId} {Z : (Nat → Prop) → State → Heap → Prop} (hZ : sg_Zok Z) {ad : Nat → Nat} {σ : sg_S} {σ' : sg_S} {r : Int32} (hF : f_X7_undo  σ = some (r, σ')) : sg_MI l yX7_undo wsX7_undo 4 103 D Y Z [.ref (ad 0)] (ww_X7TNH Y ad σ) r (ww_X7TNH Y ad σ') := by
  intro sz
  refine sg_enter (own := RX7) (maxL := 1) (ret := (some .int)) (cc := cX7_undo) (by decide +kernel) rfl rfl (Nat.le_of_ble_eq_true rfl) hZ ?_
  intro p e s m args below meth c C hr Q hQ hsz
  refine g_lv (lv2 := [(0, .ref (ad 0))]) [0] rfl ?_
  rw [f_X7_undo] at hF
  refine g_aload_n 1 C dX7_undo_0 rfl rfl rfl ?_
  refine g_get 4 C (own := RX7) (C1 := RX7) (T := TX7) 0 5 (.ref (ad 54)) kiX7_undo_X7 kfX7_undo_32 rfl dX7_undo_1 rfl rfl rfl (by decide) rfl ?_
  refine g_get 7 C (own := RX7) (C1 := RX2) (T := TX2) 14 0 (.int (σ 54 0)) kiX7_undo_X2 kfX7_undo_215 rfl dX7_undo_4 rfl rfl rfl (by decide) rfl ?_
  refine g_if_ne 10 13 C dX7_undo_7 (by decide) rfl hF (fun hF => ?_) (fun hF => ?_)
  · refine g_aload_n 14 C dX7_undo_13 rfl rfl rfl ?_
    refine g_get 17 C (own := RX7) (C1 := RX7) (T := TX7) 0 5 (.ref (ad 54)) kiX7_undo_X7 kfX7_undo_32 rfl dX7_undo_14 rfl rfl rfl (by decide) rfl ?_
    refine g_aload_n 18 C dX7_undo_17 rfl rfl rfl ?_
    refine g_get 21 C (own := RX7) (C1 := RX7) (T := TX7) 0 0 (.ref (ad 1)) kiX7_undo_X7 kfX7_undo_10 rfl dX7_undo_18 rfl rfl rfl (by decide) rfl ?_
    obtain ⟨τ1, q2, hF⟩ := sg_bndE hF
    obtain ⟨σ3, eσ3, hF⟩ := sg_letE hF
    refine g_callVvP 24 C (w2 := (ww_X7TNH Y ad σ3)) (As := [.ref (ad 1)]) (st := []) (n0 := 1) (ci := 4) (q0 := 14) (sg_MVe (c_X2_takeBack l hZ (ad := (sg_e2 106 54 1 ad)) q2) (sg_eqCons (sg_eqRow (f2 := fun i => some (ad (56 + 13 * i))) (sg_rowH ad _))) (sg_eqCons (sg_eqRow (f2 := fun i => some (ad (56 + 13 * i))) (sg_rowH ad _)))) gX7_undo_X2_takeBack ⟨rfl, by decide +kernel, by decide +kernel, rfl⟩ rfl ⟨Nat.le_of_ble_eq_true rfl, Nat.le_of_ble_eq_true rfl⟩ rfl rfl (by subst eσ3; exact sg_cutB (bk_7 Y ad σ) (bk_7 Y ad (sg_m2 54 106 1 13 σ τ1)) [0, 1, 6, 7, 8, 9, 10, 11, 12, 13, 14, 15] [6, 7, 8, 9, 10, 11, 12, 13, 14, 15, 1] [0] rfl (by decide) rfl rfl rfl rfl) rfl (Nat.le_of_ble_eq_true rfl) ⟨Nat.le_refl _, Nat.le_refl _⟩ dX7_undo_21 rfl rfl ?_
    refine g_aload_n 25 C dX7_undo_24 rfl rfl rfl ?_
    refine g_get 28 C (own := RX7) (C1 := RX7) (T := TX7) 0 5 (.ref (ad 54)) kiX7_undo_X7 kfX7_undo_32 rfl dX7_undo_25 rfl rfl rfl (by decide) rfl ?_
    refine g_get 31 C (own := RX7) (C1 := RX2) (T := TX2) 14 0 (.int (σ3 54 0)) kiX7_undo_X2 kfX7_undo_215 rfl dX7_undo_28 rfl rfl rfl (by decide) rfl ?_
    obtain ⟨e1, e2⟩ := sg_pairE hF
    exact g_iret C hr rfl hQ hsz dX7_undo_31 e1.symm (by rw [e2])
  · refine g_bipush 12 C (-3) dX7_undo_10 rfl (by decide) ?_
    obtain ⟨e1, e2⟩ := sg_pairE hF
    exact g_iret C hr rfl hQ hsz dX7_undo_12 e1.symm (by rw [e2])
theorem kiX7_save_X7 : ∀ w ∈ u_ws RX7 TX7 10, w ∈ wsX7_save := by decide +kernel
theorem kfX7_save_22 : Cond.fieldLink RX7 22 "WeatherMinistry" "saved" "LWeatherMinistry$Realm;" ∈ wsX7_save := by decide +kernel
theorem kfX7_save_10 : Cond.fieldLink RX7 10 "WeatherMinistry" "now" "LWeatherMinistry$Realm;" ∈ wsX7_save := by decide +kernel
theorem kfX7_save_25 : Cond.fieldLink RX7 25 "WeatherMinistry" "isSaved" "Z" ∈ wsX7_save := by decide +kernel
theorem kiX7_save_X3 : ∀ w ∈ u_ws RX3 TX3 8, w ∈ wsX7_save := by decide +kernel
theorem kfX7_save_108 : Cond.fieldLink RX7 108 "WeatherMinistry$Realm" "month" "I" ∈ wsX7_save := by decide +kernel
def f_X7_save  (σ : sg_S) : Option (Int32 × sg_S) := sg_bnd (f_X3_copyFrom  (sg_e2 13 41 1 σ)) (fun τ1 => sg_let (sg_m2 41 13 1 13 σ τ1) (fun σ3 => sg_let (sg_up σ3 0 4 1) (fun σ4 => some (σ4 1 0, σ4))))
set_option maxHeartbeats 4000000 in
set_option maxRecDepth 100000 in
theorem c_X7_save (l : Launch) {D : va_G} {Y : Nat → ClassId} {Z : (Nat → Prop) → State → Heap → Prop} (hZ : sg_Zok Z) {ad : Nat → Nat} {σ : sg_S} {σ' : sg_S} {r : Int32} (hF : f_X7_save  σ = some (r, σ')) : sg_MI l yX7_save wsX7_save 3 82 D Y Z [.ref (ad 0)] (ww_X7TNS Y ad σ) r (ww_X7TNS Y ad σ') := by
  intro sz
  refine sg_enter (own := RX7) (maxL := 1) (ret := (some .int)) (cc := cX7_save) (by decide +kernel) rfl rfl (Nat.le_of_ble_eq_true rfl) hZ ?_
  intro p e s m args below meth c C hr Q hQ hsz
  refine g_lv (lv2 := [(0, .ref (ad 0))]) [0] rfl ?_
  rw [f_X7_save] at hF
  refine g_aload_n 1 C dX7_save_0 rfl rfl rfl ?_
  refine g_get 4 C (own := RX7) (C1 := RX7) (T := TX7) 0 3 (.ref (ad 41)) kiX7_save_X7 kfX7_save_22 rfl dX7_save_1 rfl rfl rfl (by decide) rfl ?_
  refine g_aload_n 5 C dX7_save_4 rfl rfl rfl ?_
  refine g_get 8 C (own := RX7) (C1 := RX7) (T := TX7) 0 0 (.ref (ad 1)) kiX7_save_X7 kfX7_save_10 rfl dX7_save_5 rfl rfl rfl (by decide) rfl ?_
  obtain ⟨τ1, q2, hF⟩ := sg_bndE hF
  obtain ⟨σ3, eσ3, hF⟩ := sg_letE hF
  refine g_callVv 11 C (w2 := (ww_X7TNS Y ad σ3)) (As := [.ref (ad 1)]) (st := []) (n0 := 1) (ci := 5) (q0 := 14) [14, 15, 16, 17, 18, 19, 20, 21, 22, 23, 24, 25, 26, 1, 2, 3, 4, 5, 6, 7, 8, 9, 10, 11, 12, 13] [0] [0, 14, 15, 16, 17, 18, 19, 20, 21, 22, 23, 24, 25, 26, 1, 2, 3, 4, 5, 6, 7, 8, 9, 10, 11, 12, 13] (c_X3_copyFrom l hZ (ad := (sg_e2 13 41 1 ad)) q2) gX7_save_X3_copyFrom ⟨rfl, by decide +kernel, by decide +kernel, rfl⟩ rfl ⟨Nat.le_of_ble_eq_true rfl, Nat.le_of_ble_eq_true rfl⟩ rfl rfl (by subst eσ3; exact ⟨rfl, rfl, rfl, by decide, rfl, rfl⟩) rfl rfl (Nat.le_of_ble_eq_true rfl) ⟨Nat.le_refl _, Nat.le_refl _⟩ dX7_save_8 rfl rfl ?_
  refine g_aload_n 12 C dX7_save_11 rfl rfl rfl ?_
  refine g_iconst 13 C 1 dX7_save_12 rfl (by decide) ?_
  obtain ⟨σ4, eσ4, hF⟩ := sg_letE hF
  refine g_put 16 C (own := RX7) (C1 := RX7) (T := TX7) (w2 := (ww_X7TNS Y ad σ4)) 0 4 tyX7 tyX7_ok nmX7 kiX7_save_X7 kfX7_save_25 rfl rfl (ty := .boolean) (by decide) rfl rfl (sg_blt rfl) dX7_save_13 rfl rfl rfl (by decide) (by rw [eσ4]; rfl) ?_
  refine g_aload_n 17 C dX7_save_16 rfl rfl rfl ?_
  refine g_get 20 C (own := RX7) (C1 := RX7) (T := TX7) 0 0 (.ref (ad 1)) kiX7_save_X7 kfX7_save_10 rfl dX7_save_17 rfl rfl rfl (by decide) rfl ?_
  refine g_get 23 C (own := RX7) (C1 := RX3) (T := TX3) 1 0 (.int (σ4 1 0)) kiX7_save_X3 kfX7_save_108 rfl dX7_save_20 rfl rfl rfl (by decide) rfl ?_
  obtain ⟨e1, e2⟩ := sg_pairE hF
  exact g_iret C hr rfl hQ hsz dX7_save_23 e1.symm (by rw [e2])
theorem kiX7_restore_X7 : ∀ w ∈ u_ws RX7 TX7 10, w ∈ wsX7_restore := by decide +kernel
theorem kfX7_restore_25 : Cond.fieldLink RX7 25 "WeatherMinistry" "isSaved" "Z" ∈ wsX7_restore := by decide +kernel
theorem kfX7_restore_10 : Cond.fieldLink RX7 10 "WeatherMinistry" "now" "LWeatherMinistry$Realm;" ∈ wsX7_restore := by decide +kernel
theorem kfX7_restore_22 : Cond.fieldLink RX7 22 "WeatherMinistry" "saved" "LWeatherMinistry$Realm;" ∈ wsX7_restore := by decide +kernel
theorem kfX7_restore_32 : Cond.fieldLink RX7 32 "WeatherMinistry" "history" "LWeatherMinistry$History;" ∈ wsX7_restore := by decide +kernel
theorem kiX7_restore_X2 : ∀ w ∈ u_ws RX2 TX2 3, w ∈ wsX7_restore := by decide +kernel
theorem kfX7_restore_215 : Cond.fieldLink RX7 215 "WeatherMinistry$History" "count" "I" ∈ wsX7_restore := by decide +kernel
theorem kiX7_restore_X3 : ∀ w ∈ u_ws RX3 TX3 8, w ∈ wsX7_restore := by decide +kernel
theorem kfX7_restore_108 : Cond.fieldLink RX7 108 "WeatherMinistry$Realm" "month" "I" ∈ wsX7_restore := by decide +kernel
def f_X7_restore  (σ : sg_S) : Option (Int32 × sg_S) := (if σ 0 4 = 0 then some ((-3), σ) else sg_bnd (f_X3_copyFrom  (sg_e2 13 1 41 σ)) (fun τ1 => sg_let (sg_m2 1 13 41 13 σ τ1) (fun σ3 => sg_let (sg_up σ3 54 0 0) (fun σ4 => some (σ4 1 0, σ4)))))
set_option maxHeartbeats 4000000 in
set_option maxRecDepth 100000 in
theorem c_X7_restore (l : Launch) {D : va_G} {Y : Nat → ClassId} {Z : (Nat → Prop) → State → Heap → Prop} (hZ : sg_Zok Z) {ad : Nat → Nat} {σ : sg_S} {σ' : sg_S} {r : Int32} (hF : f_X7_restore  σ = some (r, σ')) : sg_MI l yX7_restore wsX7_restore 3 82 D Y Z [.ref (ad 0)] (ww_X7TNSh Y ad σ) r (ww_X7TNSh Y ad σ') := by
  intro sz
  refine sg_enter (own := RX7) (maxL := 1) (ret := (some .int)) (cc := cX7_restore) (by decide +kernel) rfl rfl (Nat.le_of_ble_eq_true rfl) hZ ?_
  intro p e s m args below meth c C hr Q hQ hsz
  refine g_lv (lv2 := [(0, .ref (ad 0))]) [0] rfl ?_
  rw [f_X7_restore] at hF
  refine g_aload_n 1 C dX7_restore_0 rfl rfl rfl ?_
  refine g_get 4 C (own := RX7) (C1 := RX7) (T := TX7) 0 4 (.int (σ 0 4)) kiX7_restore_X7 kfX7_restore_25 rfl dX7_restore_1 rfl rfl rfl (by decide) rfl ?_
  refine g_if_ne 7 10 C dX7_restore_4 (by decide) rfl hF (fun hF => ?_) (fun hF => ?_)
  · refine g_aload_n 11 C dX7_restore_10 rfl rfl rfl ?_
    refine g_get 14 C (own := RX7) (C1 := RX7) (T := TX7) 0 0 (.ref (ad 1)) kiX7_restore_X7 kfX7_restore_10 rfl dX7_restore_11 rfl rfl rfl (by decide) rfl ?_
    refine g_aload_n 15 C dX7_restore_14 rfl rfl rfl ?_
    refine g_get 18 C (own := RX7) (C1 := RX7) (T := TX7) 0 3 (.ref (ad 41)) kiX7_restore_X7 kfX7_restore_22 rfl dX7_restore_15 rfl rfl rfl (by decide) rfl ?_
    obtain ⟨τ1, q2, hF⟩ := sg_bndE hF
    obtain ⟨σ3, eσ3, hF⟩ := sg_letE hF
    refine g_callVv 21 C (w2 := (ww_X7TNSh Y ad σ3)) (As := [.ref (ad 41)]) (st := []) (n0 := 1) (ci := 5) (q0 := 1) [1, 2, 3, 4, 5, 6, 7, 8, 9, 10, 11, 12, 13, 14, 15, 16, 17, 18, 19, 20, 21, 22, 23, 24, 25, 26] [0, 27] [0, 2, 3, 4, 5, 6, 7, 8, 9, 10, 11, 12, 13, 14, 15, 16, 17, 18, 19, 20, 21, 22, 23, 24, 25, 26, 27, 1] (c_X3_copyFrom l hZ (ad := (sg_e2 13 1 41 ad)) q2) gX7_restore_X3_copyFrom ⟨rfl, by decide +kernel, by decide +kernel, rfl⟩ rfl ⟨Nat.le_of_ble_eq_true rfl, Nat.le_of_ble_eq_true rfl⟩ rfl rfl (by subst eσ3; exact ⟨rfl, rfl, rfl, by decide, rfl, rfl⟩) rfl rfl (Nat.le_of_ble_eq_true rfl) ⟨Nat.le_refl _, Nat.le_refl _⟩ dX7_restore_18 rfl rfl ?_
    refine g_aload_n 22 C dX7_restore_21 rfl rfl rfl ?_
    refine g_get 25 C (own := RX7) (C1 := RX7) (T := TX7) 0 5 (.ref (ad 54)) kiX7_restore_X7 kfX7_restore_32 rfl dX7_restore_22 rfl rfl rfl (by decide) rfl ?_
    refine g_iconst 26 C 0 dX7_restore_25 rfl (by decide) ?_
    obtain ⟨σ4, eσ4, hF⟩ := sg_letE hF
    refine g_put 29 C (own := RX7) (C1 := RX2) (T := TX2) (w2 := (ww_X7TNSh Y ad σ4)) 27 0 tyX2 tyX2_ok nmX2 kiX7_restore_X2 kfX7_restore_215 rfl rfl (ty := .int) (by decide) rfl rfl (sg_blt rfl) dX7_restore_26 rfl rfl rfl (by decide) (by rw [eσ4]; rfl) ?_
    refine g_aload_n 30 C dX7_restore_29 rfl rfl rfl ?_
    refine g_get 33 C (own := RX7) (C1 := RX7) (T := TX7) 0 0 (.ref (ad 1)) kiX7_restore_X7 kfX7_restore_10 rfl dX7_restore_30 rfl rfl rfl (by decide) rfl ?_
    refine g_get 36 C (own := RX7) (C1 := RX3) (T := TX3) 1 0 (.int (σ4 1 0)) kiX7_restore_X3 kfX7_restore_108 rfl dX7_restore_33 rfl rfl rfl (by decide) rfl ?_
    obtain ⟨e1, e2⟩ := sg_pairE hF
    exact g_iret C hr rfl hQ hsz dX7_restore_36 e1.symm (by rw [e2])
  · refine g_bipush 9 C (-3) dX7_restore_7 rfl (by decide) ?_
    obtain ⟨e1, e2⟩ := sg_pairE hF
    exact g_iret C hr rfl hQ hsz dX7_restore_9 e1.symm (by rw [e2])
