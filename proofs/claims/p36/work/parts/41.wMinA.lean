theorem kiX7_agree_X7 : ∀ w ∈ u_ws RX7 TX7 10, w ∈ wsX7_agree := by decide +kernel
theorem kfX7_agree_10 : Cond.fieldLink RX7 10 "WeatherMinistry" "now" "LWeatherMinistry$Realm;" ∈ wsX7_agree := by decide +kernel
theorem kiX7_agree_X3 : ∀ w ∈ u_ws RX3 TX3 8, w ∈ wsX7_agree := by decide +kernel
theorem kfX7_agree_79 : Cond.fieldLink RX7 79 "WeatherMinistry$Realm" "treaties" "LWeatherMinistry$Treaties;" ∈ wsX7_agree := by decide +kernel
theorem kfX7_agree_53 : Cond.fieldLink RX7 53 "WeatherMinistry" "latest" "LWeatherMinistry$Reason;" ∈ wsX7_agree := by decide +kernel
def f_X7_agree (x1 : Int32) (x2 : Int32) (x3 : Int32) (σ : sg_S) : Option (Int32 × sg_S) := sg_bnd (f_X7_isTown x1) (fun r1 => (if r1 = 0 then some ((-1), σ) else sg_bnd (f_X7_isTown x2) (fun r3 => (if r3 = 0 then some ((-1), σ) else (if x1 = x2 then sg_bnd2 (f_X4_keep 8 x1 (sg_e1 14 σ)) (fun r22 τ20 => sg_let (sg_m1 14 1 σ τ20) (fun σ23 => some (r22, σ23))) else sg_bnd (f_X6_isBetween x1 x2 (sg_e1 6 σ)) (fun r5 => (if r5 = x3 then (if x3 = 0 then sg_bnd2 (f_X4_keep 7 0 (sg_e1 14 σ)) (fun r14 τ12 => sg_let (sg_m1 14 1 σ τ12) (fun σ15 => some (r14, σ15))) else sg_bnd2 (f_X4_keep 7 1 (sg_e1 14 σ)) (fun r18 τ16 => sg_let (sg_m1 14 1 σ τ16) (fun σ19 => some (r18, σ19)))) else sg_bnd (f_X6_turn x1 x2 (sg_e1 6 σ)) (fun τ7 => sg_let (sg_m1 6 3 σ τ7) (fun σ9 => sg_bnd (f_X6_countAll  (sg_e1 6 σ9)) (fun r10 => some (r10, σ9)))))))))))
set_option maxHeartbeats 4000000 in
set_option maxRecDepth 100000 in
theorem c_X7_agree (l : Launch) {D : va_G} {Y : Nat → ClassId} {Z : (Nat → Prop) → State → Heap → Prop} (hZ : sg_Zok Z) {ad : Nat → Nat} {σ : sg_S} {σ' : sg_S} {x1 x2 x3 : Int32} {r : Int32} (hF : f_X7_agree x1 x2 x3 σ = some (r, σ')) : sg_MI l yX7_agree wsX7_agree 3 63 D Y Z [.ref (ad 0), .int x1, .int x2, .int x3] (ww_X7TNL Y ad σ) r (ww_X7TNL Y ad σ') := by
  intro sz
  refine sg_enter (own := RX7) (maxL := 4) (ret := (some .int)) (cc := cX7_agree) (by decide +kernel) rfl rfl (Nat.le_of_ble_eq_true rfl) hZ ?_
  intro p e s m args below meth c C hr Q hQ hsz
  refine g_lv (lv2 := [(0, .ref (ad 0)), (1, .int x1), (2, .int x2), (3, .int x3)]) [0, 1, 2, 3] rfl ?_
  rw [f_X7_agree] at hF
  refine g_iload_n 1 C dX7_agree_0 rfl rfl rfl ?_
  obtain ⟨r1, q2, hF⟩ := sg_bndE hF
  refine g_callSi 4 C (w2 := (ww_X7TNL Y ad σ)) (As := [.int x1]) (st := []) (n0 := 1) [] [0, 1, 2, 3, 4, 5, 6, 7, 8, 9, 10, 11, 12, 13, 14] [0, 1, 2, 3, 4, 5, 6, 7, 8, 9, 10, 11, 12, 13, 14] (c_X7_isTown l hZ (ad := ad) (σ := σ) q2) gX7_agree_X7_isTown ⟨by decide +kernel, by decide +kernel, rfl⟩ rfl ⟨Nat.le_of_ble_eq_true rfl, Nat.le_of_ble_eq_true rfl⟩ ⟨rfl, rfl, rfl, by decide, rfl, rfl⟩ rfl rfl (Nat.le_of_ble_eq_true rfl) ⟨Nat.le_refl _, Nat.le_refl _⟩ dX7_agree_1 rfl rfl ?_
  refine g_if_eq 7 14 C dX7_agree_4 (by decide) rfl hF (fun hF => ?_) (fun hF => ?_)
  · refine g_iconst 15 C (-1) dX7_agree_14 rfl (by decide) ?_
    obtain ⟨e1, e2⟩ := sg_pairE hF
    exact g_iret C hr rfl hQ hsz dX7_agree_15 e1.symm (by rw [e2])
  · refine g_iload_n 8 C dX7_agree_7 rfl rfl rfl ?_
    obtain ⟨r3, q4, hF⟩ := sg_bndE hF
    refine g_callSi 11 C (w2 := (ww_X7TNL Y ad σ)) (As := [.int x2]) (st := []) (n0 := 1) [] [0, 1, 2, 3, 4, 5, 6, 7, 8, 9, 10, 11, 12, 13, 14] [0, 1, 2, 3, 4, 5, 6, 7, 8, 9, 10, 11, 12, 13, 14] (c_X7_isTown l hZ (ad := ad) (σ := σ) q4) gX7_agree_X7_isTown ⟨by decide +kernel, by decide +kernel, rfl⟩ rfl ⟨Nat.le_of_ble_eq_true rfl, Nat.le_of_ble_eq_true rfl⟩ ⟨rfl, rfl, rfl, by decide, rfl, rfl⟩ rfl rfl (Nat.le_of_ble_eq_true rfl) ⟨Nat.le_refl _, Nat.le_refl _⟩ dX7_agree_8 rfl rfl ?_
    refine g_if_ne 14 16 C dX7_agree_11 (by decide) rfl hF (fun hF => ?_) (fun hF => ?_)
    · refine g_iload_n 17 C dX7_agree_16 rfl rfl rfl ?_
      refine g_iload_n 18 C dX7_agree_17 rfl rfl rfl ?_
      refine g_icmp_ne 21 32 C dX7_agree_18 (by decide) rfl hF (fun hF => ?_) (fun hF => ?_)
      · refine g_aload_n 33 C dX7_agree_32 rfl rfl rfl ?_
        refine g_get 36 C (own := RX7) (C1 := RX7) (T := TX7) 0 0 (.ref (ad 1)) kiX7_agree_X7 kfX7_agree_10 rfl dX7_agree_33 rfl rfl rfl (by decide) rfl ?_
        refine g_get 39 C (own := RX7) (C1 := RX3) (T := TX3) 1 5 (.ref (ad 6)) kiX7_agree_X3 kfX7_agree_79 rfl dX7_agree_36 rfl rfl rfl (by decide) rfl ?_
        refine g_iload_n 40 C dX7_agree_39 rfl rfl rfl ?_
        refine g_iload_n 41 C dX7_agree_40 rfl rfl rfl ?_
        obtain ⟨r5, q6, hF⟩ := sg_bndE hF
        refine g_callVi 44 C (w2 := (ww_X7TNL Y ad σ)) (As := [.int x1, .int x2]) (st := []) (n0 := 2) (ci := 8) (q0 := 6) [6, 7, 8] [0, 1, 2, 3, 4, 5, 9, 10, 11, 12, 13, 14] [0, 1, 2, 3, 4, 5, 12, 13, 14, 6, 7, 8, 9, 10, 11] (c_X6_isBetween l hZ (ad := (sg_e1 6 ad)) q6) gX7_agree_X6_isBetween ⟨rfl, by decide +kernel, by decide +kernel, rfl⟩ rfl ⟨Nat.le_of_ble_eq_true rfl, Nat.le_of_ble_eq_true rfl⟩ rfl rfl ⟨rfl, rfl, rfl, by decide, rfl, rfl⟩ rfl rfl (Nat.le_of_ble_eq_true rfl) ⟨Nat.le_refl _, Nat.le_refl _⟩ dX7_agree_41 rfl rfl ?_
        refine g_iload_n 45 C dX7_agree_44 rfl rfl rfl ?_
        refine g_icmp_ne 48 67 C dX7_agree_45 (by decide) rfl hF (fun hF => ?_) (fun hF => ?_)
        · refine g_aload_n 68 C dX7_agree_67 rfl rfl rfl ?_
          refine g_get 71 C (own := RX7) (C1 := RX7) (T := TX7) 0 0 (.ref (ad 1)) kiX7_agree_X7 kfX7_agree_10 rfl dX7_agree_68 rfl rfl rfl (by decide) rfl ?_
          refine g_get 74 C (own := RX7) (C1 := RX3) (T := TX3) 1 5 (.ref (ad 6)) kiX7_agree_X3 kfX7_agree_79 rfl dX7_agree_71 rfl rfl rfl (by decide) rfl ?_
          refine g_iload_n 75 C dX7_agree_74 rfl rfl rfl ?_
          refine g_iload_n 76 C dX7_agree_75 rfl rfl rfl ?_
          obtain ⟨τ7, q8, hF⟩ := sg_bndE hF
          obtain ⟨σ9, eσ9, hF⟩ := sg_letE hF
          refine g_callVv 79 C (w2 := (ww_X7TNL Y ad σ9)) (As := [.int x1, .int x2]) (st := []) (n0 := 2) (ci := 8) (q0 := 6) [6, 7, 8] [0, 1, 2, 3, 4, 5, 9, 10, 11, 12, 13, 14] [0, 1, 2, 3, 4, 5, 12, 13, 14, 6, 7, 8, 9, 10, 11] (c_X6_turn l hZ (ad := (sg_e1 6 ad)) q8) gX7_agree_X6_turn ⟨rfl, by decide +kernel, by decide +kernel, rfl⟩ rfl ⟨Nat.le_of_ble_eq_true rfl, Nat.le_of_ble_eq_true rfl⟩ rfl rfl (by subst eσ9; exact ⟨rfl, rfl, rfl, by decide, rfl, rfl⟩) rfl rfl (Nat.le_of_ble_eq_true rfl) ⟨Nat.le_refl _, Nat.le_refl _⟩ dX7_agree_76 rfl rfl ?_
          refine g_aload_n 80 C dX7_agree_79 rfl rfl rfl ?_
          refine g_get 83 C (own := RX7) (C1 := RX7) (T := TX7) 0 0 (.ref (ad 1)) kiX7_agree_X7 kfX7_agree_10 rfl dX7_agree_80 rfl rfl rfl (by decide) rfl ?_
          refine g_get 86 C (own := RX7) (C1 := RX3) (T := TX3) 1 5 (.ref (ad 6)) kiX7_agree_X3 kfX7_agree_79 rfl dX7_agree_83 rfl rfl rfl (by decide) rfl ?_
          obtain ⟨r10, q11, hF⟩ := sg_bndE hF
          refine g_callVi 89 C (w2 := (ww_X7TNL Y ad σ9)) (As := []) (st := []) (n0 := 0) (ci := 8) (q0 := 6) [6, 7, 8] [0, 1, 2, 3, 4, 5, 9, 10, 11, 12, 13, 14] [0, 1, 2, 3, 4, 5, 12, 13, 14, 6, 7, 8, 9, 10, 11] (c_X6_countAll l hZ (ad := (sg_e1 6 ad)) q11) gX7_agree_X6_countAll ⟨rfl, by decide +kernel, by decide +kernel, rfl⟩ rfl ⟨Nat.le_of_ble_eq_true rfl, Nat.le_of_ble_eq_true rfl⟩ rfl rfl ⟨rfl, rfl, rfl, by decide, rfl, rfl⟩ rfl rfl (Nat.le_of_ble_eq_true rfl) ⟨Nat.le_refl _, Nat.le_refl _⟩ dX7_agree_86 rfl rfl ?_
          obtain ⟨e1, e2⟩ := sg_pairE hF
          exact g_iret C hr rfl hQ hsz dX7_agree_89 e1.symm (by rw [e2])
        · refine g_aload_n 49 C dX7_agree_48 rfl rfl rfl ?_
          refine g_get 52 C (own := RX7) (C1 := RX7) (T := TX7) 0 8 (.ref (ad 14)) kiX7_agree_X7 kfX7_agree_53 rfl dX7_agree_49 rfl rfl rfl (by decide) rfl ?_
          refine g_bipush 54 C 7 dX7_agree_52 rfl (by decide) ?_
          refine g_iload_n 55 C dX7_agree_54 rfl rfl rfl ?_
          refine g_if_eq 58 62 C dX7_agree_55 (by decide) rfl hF (fun hF => ?_) (fun hF => ?_)
          · refine g_iconst 63 C 0 dX7_agree_62 rfl (by decide) ?_
            obtain ⟨r14, τ12, q13, hF⟩ := sg_bnd2E hF
            obtain ⟨σ15, eσ15, hF⟩ := sg_letE hF
            refine g_callVi 66 C (w2 := (ww_X7TNL Y ad σ15)) (As := [.int 7, .int 0]) (st := []) (n0 := 2) (ci := 6) (q0 := 14) [14] [0, 1, 2, 3, 4, 5, 6, 7, 8, 9, 10, 11, 12, 13] [0, 1, 2, 3, 4, 5, 6, 7, 8, 9, 10, 11, 12, 13, 14] (c_X4_keep l hZ (ad := (sg_e1 14 ad)) q13) gX7_agree_X4_keep ⟨rfl, by decide +kernel, by decide +kernel, rfl⟩ rfl ⟨Nat.le_of_ble_eq_true rfl, Nat.le_of_ble_eq_true rfl⟩ rfl rfl (by subst eσ15; exact ⟨rfl, rfl, rfl, by decide, rfl, rfl⟩) rfl rfl (Nat.le_of_ble_eq_true rfl) ⟨Nat.le_refl _, Nat.le_refl _⟩ dX7_agree_63 rfl rfl ?_
            obtain ⟨e1, e2⟩ := sg_pairE hF
            exact g_iret C hr rfl hQ hsz dX7_agree_66 e1.symm (by rw [e2])
          · refine g_iconst 59 C 1 dX7_agree_58 rfl (by decide) ?_
            refine g_goto 63 C dX7_agree_59 (by decide) ?_
            obtain ⟨r18, τ16, q17, hF⟩ := sg_bnd2E hF
            obtain ⟨σ19, eσ19, hF⟩ := sg_letE hF
            refine g_callVi 66 C (w2 := (ww_X7TNL Y ad σ19)) (As := [.int 7, .int 1]) (st := []) (n0 := 2) (ci := 6) (q0 := 14) [14] [0, 1, 2, 3, 4, 5, 6, 7, 8, 9, 10, 11, 12, 13] [0, 1, 2, 3, 4, 5, 6, 7, 8, 9, 10, 11, 12, 13, 14] (c_X4_keep l hZ (ad := (sg_e1 14 ad)) q17) gX7_agree_X4_keep ⟨rfl, by decide +kernel, by decide +kernel, rfl⟩ rfl ⟨Nat.le_of_ble_eq_true rfl, Nat.le_of_ble_eq_true rfl⟩ rfl rfl (by subst eσ19; exact ⟨rfl, rfl, rfl, by decide, rfl, rfl⟩) rfl rfl (Nat.le_of_ble_eq_true rfl) ⟨Nat.le_refl _, Nat.le_refl _⟩ dX7_agree_63 rfl rfl ?_
            obtain ⟨e1, e2⟩ := sg_pairE hF
            exact g_iret C hr rfl hQ hsz dX7_agree_66 e1.symm (by rw [e2])
      · refine g_aload_n 22 C dX7_agree_21 rfl rfl rfl ?_
        refine g_get 25 C (own := RX7) (C1 := RX7) (T := TX7) 0 8 (.ref (ad 14)) kiX7_agree_X7 kfX7_agree_53 rfl dX7_agree_22 rfl rfl rfl (by decide) rfl ?_
        refine g_bipush 27 C 8 dX7_agree_25 rfl (by decide) ?_
        refine g_iload_n 28 C dX7_agree_27 rfl rfl rfl ?_
        obtain ⟨r22, τ20, q21, hF⟩ := sg_bnd2E hF
        obtain ⟨σ23, eσ23, hF⟩ := sg_letE hF
        refine g_callVi 31 C (w2 := (ww_X7TNL Y ad σ23)) (As := [.int 8, .int x1]) (st := []) (n0 := 2) (ci := 6) (q0 := 14) [14] [0, 1, 2, 3, 4, 5, 6, 7, 8, 9, 10, 11, 12, 13] [0, 1, 2, 3, 4, 5, 6, 7, 8, 9, 10, 11, 12, 13, 14] (c_X4_keep l hZ (ad := (sg_e1 14 ad)) q21) gX7_agree_X4_keep ⟨rfl, by decide +kernel, by decide +kernel, rfl⟩ rfl ⟨Nat.le_of_ble_eq_true rfl, Nat.le_of_ble_eq_true rfl⟩ rfl rfl (by subst eσ23; exact ⟨rfl, rfl, rfl, by decide, rfl, rfl⟩) rfl rfl (Nat.le_of_ble_eq_true rfl) ⟨Nat.le_refl _, Nat.le_refl _⟩ dX7_agree_28 rfl rfl ?_
        obtain ⟨e1, e2⟩ := sg_pairE hF
        exact g_iret C hr rfl hQ hsz dX7_agree_31 e1.symm (by rw [e2])
    · refine g_iconst 15 C (-1) dX7_agree_14 rfl (by decide) ?_
      obtain ⟨e1, e2⟩ := sg_pairE hF
      exact g_iret C hr rfl hQ hsz dX7_agree_15 e1.symm (by rw [e2])
theorem kiX7_lend_X7 : ∀ w ∈ u_ws RX7 TX7 10, w ∈ wsX7_lend := by decide +kernel
theorem kfX7_lend_10 : Cond.fieldLink RX7 10 "WeatherMinistry" "now" "LWeatherMinistry$Realm;" ∈ wsX7_lend := by decide +kernel
theorem kiX7_lend_X3 : ∀ w ∈ u_ws RX3 TX3 8, w ∈ wsX7_lend := by decide +kernel
theorem kfX7_lend_148 : Cond.fieldLink RX7 148 "WeatherMinistry$Realm" "arrears" "[I" ∈ wsX7_lend := by decide +kernel
theorem kfX7_lend_69 : Cond.fieldLink RX7 69 "WeatherMinistry$Realm" "credits" "LWeatherMinistry$Credits;" ∈ wsX7_lend := by decide +kernel
theorem kiX7_lend_X1 : ∀ w ∈ u_ws RX1 TX1 4, w ∈ wsX7_lend := by decide +kernel
theorem kfX7_lend_151 : Cond.fieldLink RX7 151 "WeatherMinistry$Credits" "count" "I" ∈ wsX7_lend := by decide +kernel
theorem kfX7_lend_154 : Cond.fieldLink RX7 154 "WeatherMinistry$Realm" "sun" "[I" ∈ wsX7_lend := by decide +kernel
theorem kfX7_lend_53 : Cond.fieldLink RX7 53 "WeatherMinistry" "latest" "LWeatherMinistry$Reason;" ∈ wsX7_lend := by decide +kernel
def f_X7_lend (x1 : Int32) (x2 : Int32) (x3 : Int32) (σ : sg_S) : Option (Int32 × sg_S) := sg_bnd (f_X7_isTown x1) (fun r1 => (if r1 = 0 then some ((-1), σ) else sg_bnd (f_X7_isHours x2) (fun r3 => (if r3 = 0 then some ((-2), σ) else sg_bnd (f_X7_isMonths x3) (fun r5 => (if r5 = 0 then some ((-2), σ) else sg_grd (sg_in x1 5) ((if 0 < σ 5 x1.toNatClampNeg then sg_bnd2 (f_X4_keep 2 (σ 5 x1.toNatClampNeg) (sg_e1 14 σ)) (fun r21 τ19 => sg_let (sg_m1 14 1 σ τ19) (fun σ22 => some (r21, σ22))) else (if 8 ≤ σ 9 0 then sg_bnd2 (f_X4_keep 1 (σ 9 0) (sg_e1 14 σ)) (fun r17 τ15 => sg_let (sg_m1 14 1 σ τ15) (fun σ18 => some (r17, σ18))) else (if 60 < (σ 2 x1.toNatClampNeg) + x2 then sg_bnd2 (f_X4_keep 3 (60 - (σ 2 x1.toNatClampNeg)) (sg_e1 14 σ)) (fun r13 τ11 => sg_let (sg_m1 14 1 σ τ11) (fun σ14 => some (r13, σ14))) else sg_bnd (f_X3_giveCredit x1 x2 x3 (sg_e1 1 σ)) (fun τ8 => sg_let (sg_m1 1 13 σ τ8) (fun σ10 => some ((σ10 9 0) - 1, σ10)))))))))))))
set_option maxHeartbeats 4000000 in
set_option maxRecDepth 100000 in
theorem c_X7_lend (l : Launch) {D : va_G} {Y : Nat → ClassId} {Z : (Nat → Prop) → State → Heap → Prop} (hZ : sg_Zok Z) {ad : Nat → Nat} {σ : sg_S} {σ' : sg_S} {x1 x2 x3 : Int32} {r : Int32} (hF : f_X7_lend x1 x2 x3 σ = some (r, σ')) : sg_MI l yX7_lend wsX7_lend 2 46 D Y Z [.ref (ad 0), .int x1, .int x2, .int x3] (ww_X7TNL Y ad σ) r (ww_X7TNL Y ad σ') := by
  intro sz
  refine sg_enter (own := RX7) (maxL := 4) (ret := (some .int)) (cc := cX7_lend) (by decide +kernel) rfl rfl (Nat.le_of_ble_eq_true rfl) hZ ?_
  intro p e s m args below meth c C hr Q hQ hsz
  refine g_lv (lv2 := [(0, .ref (ad 0)), (1, .int x1), (2, .int x2), (3, .int x3)]) [0, 1, 2, 3] rfl ?_
  rw [f_X7_lend] at hF
  refine g_iload_n 1 C dX7_lend_0 rfl rfl rfl ?_
  obtain ⟨r1, q2, hF⟩ := sg_bndE hF
  refine g_callSi 4 C (w2 := (ww_X7TNL Y ad σ)) (As := [.int x1]) (st := []) (n0 := 1) [] [0, 1, 2, 3, 4, 5, 6, 7, 8, 9, 10, 11, 12, 13, 14] [0, 1, 2, 3, 4, 5, 6, 7, 8, 9, 10, 11, 12, 13, 14] (c_X7_isTown l hZ (ad := ad) (σ := σ) q2) gX7_lend_X7_isTown ⟨by decide +kernel, by decide +kernel, rfl⟩ rfl ⟨Nat.le_of_ble_eq_true rfl, Nat.le_of_ble_eq_true rfl⟩ ⟨rfl, rfl, rfl, by decide, rfl, rfl⟩ rfl rfl (Nat.le_of_ble_eq_true rfl) ⟨Nat.le_refl _, Nat.le_refl _⟩ dX7_lend_1 rfl rfl ?_
  refine g_if_ne 7 9 C dX7_lend_4 (by decide) rfl hF (fun hF => ?_) (fun hF => ?_)
  · refine g_iload_n 10 C dX7_lend_9 rfl rfl rfl ?_
    obtain ⟨r3, q4, hF⟩ := sg_bndE hF
    refine g_callSi 13 C (w2 := (ww_X7TNL Y ad σ)) (As := [.int x2]) (st := []) (n0 := 1) [] [0, 1, 2, 3, 4, 5, 6, 7, 8, 9, 10, 11, 12, 13, 14] [0, 1, 2, 3, 4, 5, 6, 7, 8, 9, 10, 11, 12, 13, 14] (c_X7_isHours l hZ (ad := ad) (σ := σ) q4) gX7_lend_X7_isHours ⟨by decide +kernel, by decide +kernel, rfl⟩ rfl ⟨Nat.le_of_ble_eq_true rfl, Nat.le_of_ble_eq_true rfl⟩ ⟨rfl, rfl, rfl, by decide, rfl, rfl⟩ rfl rfl (Nat.le_of_ble_eq_true rfl) ⟨Nat.le_refl _, Nat.le_refl _⟩ dX7_lend_10 rfl rfl ?_
    refine g_if_eq 16 23 C dX7_lend_13 (by decide) rfl hF (fun hF => ?_) (fun hF => ?_)
    · refine g_bipush 25 C (-2) dX7_lend_23 rfl (by decide) ?_
      obtain ⟨e1, e2⟩ := sg_pairE hF
      exact g_iret C hr rfl hQ hsz dX7_lend_25 e1.symm (by rw [e2])
    · refine g_iload_n 17 C dX7_lend_16 rfl rfl rfl ?_
      obtain ⟨r5, q6, hF⟩ := sg_bndE hF
      refine g_callSi 20 C (w2 := (ww_X7TNL Y ad σ)) (As := [.int x3]) (st := []) (n0 := 1) [] [0, 1, 2, 3, 4, 5, 6, 7, 8, 9, 10, 11, 12, 13, 14] [0, 1, 2, 3, 4, 5, 6, 7, 8, 9, 10, 11, 12, 13, 14] (c_X7_isMonths l hZ (ad := ad) (σ := σ) q6) gX7_lend_X7_isMonths ⟨by decide +kernel, by decide +kernel, rfl⟩ rfl ⟨Nat.le_of_ble_eq_true rfl, Nat.le_of_ble_eq_true rfl⟩ ⟨rfl, rfl, rfl, by decide, rfl, rfl⟩ rfl rfl (Nat.le_of_ble_eq_true rfl) ⟨Nat.le_refl _, Nat.le_refl _⟩ dX7_lend_17 rfl rfl ?_
      refine g_if_ne 23 26 C dX7_lend_20 (by decide) rfl hF (fun hF => ?_) (fun hF => ?_)
      · refine g_aload_n 27 C dX7_lend_26 rfl rfl rfl ?_
        refine g_get 30 C (own := RX7) (C1 := RX7) (T := TX7) 0 0 (.ref (ad 1)) kiX7_lend_X7 kfX7_lend_10 rfl dX7_lend_27 rfl rfl rfl (by decide) rfl ?_
        refine g_get 33 C (own := RX7) (C1 := RX3) (T := TX3) 1 4 (.ref (ad 5)) kiX7_lend_X3 kfX7_lend_148 rfl dX7_lend_30 rfl rfl rfl (by decide) rfl ?_
        refine g_iload_n 34 C dX7_lend_33 rfl rfl rfl ?_
        obtain ⟨h7, hF⟩ := sg_grdE hF
        refine g_ialdc 35 C 5 (x1.toNatClampNeg) (σ 5 x1.toNatClampNeg) dX7_lend_34 rfl rfl rfl h7 rfl ?_
        refine g_if_le 38 56 C dX7_lend_35 (by decide) rfl hF (fun hF => ?_) (fun hF => ?_)
        · refine g_aload_n 57 C dX7_lend_56 rfl rfl rfl ?_
          refine g_get 60 C (own := RX7) (C1 := RX7) (T := TX7) 0 0 (.ref (ad 1)) kiX7_lend_X7 kfX7_lend_10 rfl dX7_lend_57 rfl rfl rfl (by decide) rfl ?_
          refine g_get 63 C (own := RX7) (C1 := RX3) (T := TX3) 1 6 (.ref (ad 9)) kiX7_lend_X3 kfX7_lend_69 rfl dX7_lend_60 rfl rfl rfl (by decide) rfl ?_
          refine g_get 66 C (own := RX7) (C1 := RX1) (T := TX1) 9 0 (.int (σ 9 0)) kiX7_lend_X1 kfX7_lend_151 rfl dX7_lend_63 rfl rfl rfl (by decide) rfl ?_
          refine g_bipush 68 C 8 dX7_lend_66 rfl (by decide) ?_
          refine g_icmp_lt 71 90 C dX7_lend_68 (by decide) rfl hF (fun hF => ?_) (fun hF => ?_)
          · refine g_aload_n 91 C dX7_lend_90 rfl rfl rfl ?_
            refine g_get 94 C (own := RX7) (C1 := RX7) (T := TX7) 0 0 (.ref (ad 1)) kiX7_lend_X7 kfX7_lend_10 rfl dX7_lend_91 rfl rfl rfl (by decide) rfl ?_
            refine g_get 97 C (own := RX7) (C1 := RX3) (T := TX3) 1 1 (.ref (ad 2)) kiX7_lend_X3 kfX7_lend_154 rfl dX7_lend_94 rfl rfl rfl (by decide) rfl ?_
            refine g_iload_n 98 C dX7_lend_97 rfl rfl rfl ?_
            refine g_ialdc 99 C 2 (x1.toNatClampNeg) (σ 2 x1.toNatClampNeg) dX7_lend_98 rfl rfl rfl h7 rfl ?_
            refine g_iload_n 100 C dX7_lend_99 rfl rfl rfl ?_
            refine g_iadd 101 C dX7_lend_100 rfl ?_
            refine g_bipush 103 C 60 dX7_lend_101 rfl (by decide) ?_
            refine g_icmp_le 106 127 C dX7_lend_103 (by decide) rfl hF (fun hF => ?_) (fun hF => ?_)
            · refine g_aload_n 128 C dX7_lend_127 rfl rfl rfl ?_
              refine g_get 131 C (own := RX7) (C1 := RX7) (T := TX7) 0 0 (.ref (ad 1)) kiX7_lend_X7 kfX7_lend_10 rfl dX7_lend_128 rfl rfl rfl (by decide) rfl ?_
              refine g_iload_n 132 C dX7_lend_131 rfl rfl rfl ?_
              refine g_iload_n 133 C dX7_lend_132 rfl rfl rfl ?_
              refine g_iload_n 134 C dX7_lend_133 rfl rfl rfl ?_
              obtain ⟨τ8, q9, hF⟩ := sg_bndE hF
              obtain ⟨σ10, eσ10, hF⟩ := sg_letE hF
              refine g_callVv 137 C (w2 := (ww_X7TNL Y ad σ10)) (As := [.int x1, .int x2, .int x3]) (st := []) (n0 := 3) (ci := 5) (q0 := 1) [1, 2, 3, 4, 5, 6, 7, 8, 9, 10, 11, 12, 13] [0, 14] [0, 2, 3, 4, 5, 6, 7, 8, 9, 10, 11, 12, 13, 14, 1] (c_X3_giveCredit l hZ (ad := (sg_e1 1 ad)) q9) gX7_lend_X3_giveCredit ⟨rfl, by decide +kernel, by decide +kernel, rfl⟩ rfl ⟨Nat.le_of_ble_eq_true rfl, Nat.le_of_ble_eq_true rfl⟩ rfl rfl (by subst eσ10; exact ⟨rfl, rfl, rfl, by decide, rfl, rfl⟩) rfl rfl (Nat.le_of_ble_eq_true rfl) ⟨Nat.le_refl _, Nat.le_refl _⟩ dX7_lend_134 rfl rfl ?_
              refine g_aload_n 138 C dX7_lend_137 rfl rfl rfl ?_
              refine g_get 141 C (own := RX7) (C1 := RX7) (T := TX7) 0 0 (.ref (ad 1)) kiX7_lend_X7 kfX7_lend_10 rfl dX7_lend_138 rfl rfl rfl (by decide) rfl ?_
              refine g_get 144 C (own := RX7) (C1 := RX3) (T := TX3) 1 6 (.ref (ad 9)) kiX7_lend_X3 kfX7_lend_69 rfl dX7_lend_141 rfl rfl rfl (by decide) rfl ?_
              refine g_get 147 C (own := RX7) (C1 := RX1) (T := TX1) 9 0 (.int (σ10 9 0)) kiX7_lend_X1 kfX7_lend_151 rfl dX7_lend_144 rfl rfl rfl (by decide) rfl ?_
              refine g_iconst 148 C 1 dX7_lend_147 rfl (by decide) ?_
              refine g_isub 149 C dX7_lend_148 rfl ?_
              obtain ⟨e1, e2⟩ := sg_pairE hF
              exact g_iret C hr rfl hQ hsz dX7_lend_149 e1.symm (by rw [e2])
            · refine g_aload_n 107 C dX7_lend_106 rfl rfl rfl ?_
              refine g_get 110 C (own := RX7) (C1 := RX7) (T := TX7) 0 8 (.ref (ad 14)) kiX7_lend_X7 kfX7_lend_53 rfl dX7_lend_107 rfl rfl rfl (by decide) rfl ?_
              refine g_iconst 111 C 3 dX7_lend_110 rfl (by decide) ?_
              refine g_bipush 113 C 60 dX7_lend_111 rfl (by decide) ?_
              refine g_aload_n 114 C dX7_lend_113 rfl rfl rfl ?_
              refine g_get 117 C (own := RX7) (C1 := RX7) (T := TX7) 0 0 (.ref (ad 1)) kiX7_lend_X7 kfX7_lend_10 rfl dX7_lend_114 rfl rfl rfl (by decide) rfl ?_
              refine g_get 120 C (own := RX7) (C1 := RX3) (T := TX3) 1 1 (.ref (ad 2)) kiX7_lend_X3 kfX7_lend_154 rfl dX7_lend_117 rfl rfl rfl (by decide) rfl ?_
              refine g_iload_n 121 C dX7_lend_120 rfl rfl rfl ?_
              refine g_ialdc 122 C 2 (x1.toNatClampNeg) (σ 2 x1.toNatClampNeg) dX7_lend_121 rfl rfl rfl h7 rfl ?_
              refine g_isub 123 C dX7_lend_122 rfl ?_
              obtain ⟨r13, τ11, q12, hF⟩ := sg_bnd2E hF
              obtain ⟨σ14, eσ14, hF⟩ := sg_letE hF
              refine g_callVi 126 C (w2 := (ww_X7TNL Y ad σ14)) (As := [.int 3, .int (60 - (σ 2 x1.toNatClampNeg))]) (st := []) (n0 := 2) (ci := 6) (q0 := 14) [14] [0, 1, 2, 3, 4, 5, 6, 7, 8, 9, 10, 11, 12, 13] [0, 1, 2, 3, 4, 5, 6, 7, 8, 9, 10, 11, 12, 13, 14] (c_X4_keep l hZ (ad := (sg_e1 14 ad)) q12) gX7_lend_X4_keep ⟨rfl, by decide +kernel, by decide +kernel, rfl⟩ rfl ⟨Nat.le_of_ble_eq_true rfl, Nat.le_of_ble_eq_true rfl⟩ rfl rfl (by subst eσ14; exact ⟨rfl, rfl, rfl, by decide, rfl, rfl⟩) rfl rfl (Nat.le_of_ble_eq_true rfl) ⟨Nat.le_refl _, Nat.le_refl _⟩ dX7_lend_123 rfl rfl ?_
              obtain ⟨e1, e2⟩ := sg_pairE hF
              exact g_iret C hr rfl hQ hsz dX7_lend_126 e1.symm (by rw [e2])
          · refine g_aload_n 72 C dX7_lend_71 rfl rfl rfl ?_
            refine g_get 75 C (own := RX7) (C1 := RX7) (T := TX7) 0 8 (.ref (ad 14)) kiX7_lend_X7 kfX7_lend_53 rfl dX7_lend_72 rfl rfl rfl (by decide) rfl ?_
            refine g_iconst 76 C 1 dX7_lend_75 rfl (by decide) ?_
            refine g_aload_n 77 C dX7_lend_76 rfl rfl rfl ?_
            refine g_get 80 C (own := RX7) (C1 := RX7) (T := TX7) 0 0 (.ref (ad 1)) kiX7_lend_X7 kfX7_lend_10 rfl dX7_lend_77 rfl rfl rfl (by decide) rfl ?_
            refine g_get 83 C (own := RX7) (C1 := RX3) (T := TX3) 1 6 (.ref (ad 9)) kiX7_lend_X3 kfX7_lend_69 rfl dX7_lend_80 rfl rfl rfl (by decide) rfl ?_
            refine g_get 86 C (own := RX7) (C1 := RX1) (T := TX1) 9 0 (.int (σ 9 0)) kiX7_lend_X1 kfX7_lend_151 rfl dX7_lend_83 rfl rfl rfl (by decide) rfl ?_
            obtain ⟨r17, τ15, q16, hF⟩ := sg_bnd2E hF
            obtain ⟨σ18, eσ18, hF⟩ := sg_letE hF
            refine g_callVi 89 C (w2 := (ww_X7TNL Y ad σ18)) (As := [.int 1, .int (σ 9 0)]) (st := []) (n0 := 2) (ci := 6) (q0 := 14) [14] [0, 1, 2, 3, 4, 5, 6, 7, 8, 9, 10, 11, 12, 13] [0, 1, 2, 3, 4, 5, 6, 7, 8, 9, 10, 11, 12, 13, 14] (c_X4_keep l hZ (ad := (sg_e1 14 ad)) q16) gX7_lend_X4_keep ⟨rfl, by decide +kernel, by decide +kernel, rfl⟩ rfl ⟨Nat.le_of_ble_eq_true rfl, Nat.le_of_ble_eq_true rfl⟩ rfl rfl (by subst eσ18; exact ⟨rfl, rfl, rfl, by decide, rfl, rfl⟩) rfl rfl (Nat.le_of_ble_eq_true rfl) ⟨Nat.le_refl _, Nat.le_refl _⟩ dX7_lend_86 rfl rfl ?_
            obtain ⟨e1, e2⟩ := sg_pairE hF
            exact g_iret C hr rfl hQ hsz dX7_lend_89 e1.symm (by rw [e2])
        · refine g_aload_n 39 C dX7_lend_38 rfl rfl rfl ?_
          refine g_get 42 C (own := RX7) (C1 := RX7) (T := TX7) 0 8 (.ref (ad 14)) kiX7_lend_X7 kfX7_lend_53 rfl dX7_lend_39 rfl rfl rfl (by decide) rfl ?_
          refine g_iconst 43 C 2 dX7_lend_42 rfl (by decide) ?_
          refine g_aload_n 44 C dX7_lend_43 rfl rfl rfl ?_
          refine g_get 47 C (own := RX7) (C1 := RX7) (T := TX7) 0 0 (.ref (ad 1)) kiX7_lend_X7 kfX7_lend_10 rfl dX7_lend_44 rfl rfl rfl (by decide) rfl ?_
          refine g_get 50 C (own := RX7) (C1 := RX3) (T := TX3) 1 4 (.ref (ad 5)) kiX7_lend_X3 kfX7_lend_148 rfl dX7_lend_47 rfl rfl rfl (by decide) rfl ?_
          refine g_iload_n 51 C dX7_lend_50 rfl rfl rfl ?_
          refine g_ialdc 52 C 5 (x1.toNatClampNeg) (σ 5 x1.toNatClampNeg) dX7_lend_51 rfl rfl rfl h7 rfl ?_
          obtain ⟨r21, τ19, q20, hF⟩ := sg_bnd2E hF
          obtain ⟨σ22, eσ22, hF⟩ := sg_letE hF
          refine g_callVi 55 C (w2 := (ww_X7TNL Y ad σ22)) (As := [.int 2, .int (σ 5 x1.toNatClampNeg)]) (st := []) (n0 := 2) (ci := 6) (q0 := 14) [14] [0, 1, 2, 3, 4, 5, 6, 7, 8, 9, 10, 11, 12, 13] [0, 1, 2, 3, 4, 5, 6, 7, 8, 9, 10, 11, 12, 13, 14] (c_X4_keep l hZ (ad := (sg_e1 14 ad)) q20) gX7_lend_X4_keep ⟨rfl, by decide +kernel, by decide +kernel, rfl⟩ rfl ⟨Nat.le_of_ble_eq_true rfl, Nat.le_of_ble_eq_true rfl⟩ rfl rfl (by subst eσ22; exact ⟨rfl, rfl, rfl, by decide, rfl, rfl⟩) rfl rfl (Nat.le_of_ble_eq_true rfl) ⟨Nat.le_refl _, Nat.le_refl _⟩ dX7_lend_52 rfl rfl ?_
          obtain ⟨e1, e2⟩ := sg_pairE hF
          exact g_iret C hr rfl hQ hsz dX7_lend_55 e1.symm (by rw [e2])
      · refine g_bipush 25 C (-2) dX7_lend_23 rfl (by decide) ?_
        obtain ⟨e1, e2⟩ := sg_pairE hF
        exact g_iret C hr rfl hQ hsz dX7_lend_25 e1.symm (by rw [e2])
  · refine g_iconst 8 C (-1) dX7_lend_7 rfl (by decide) ?_
    obtain ⟨e1, e2⟩ := sg_pairE hF
    exact g_iret C hr rfl hQ hsz dX7_lend_8 e1.symm (by rw [e2])
theorem kiX7_takeBack_X7 : ∀ w ∈ u_ws RX7 TX7 10, w ∈ wsX7_takeBack := by decide +kernel
theorem kfX7_takeBack_10 : Cond.fieldLink RX7 10 "WeatherMinistry" "now" "LWeatherMinistry$Realm;" ∈ wsX7_takeBack := by decide +kernel
theorem kiX7_takeBack_X3 : ∀ w ∈ u_ws RX3 TX3 8, w ∈ wsX7_takeBack := by decide +kernel
theorem kfX7_takeBack_69 : Cond.fieldLink RX7 69 "WeatherMinistry$Realm" "credits" "LWeatherMinistry$Credits;" ∈ wsX7_takeBack := by decide +kernel
theorem kiX7_takeBack_X1 : ∀ w ∈ u_ws RX1 TX1 4, w ∈ wsX7_takeBack := by decide +kernel
theorem kfX7_takeBack_98 : Cond.fieldLink RX7 98 "WeatherMinistry$Credits" "towns" "[I" ∈ wsX7_takeBack := by decide +kernel
theorem kfX7_takeBack_102 : Cond.fieldLink RX7 102 "WeatherMinistry$Credits" "hours" "[I" ∈ wsX7_takeBack := by decide +kernel
theorem kfX7_takeBack_154 : Cond.fieldLink RX7 154 "WeatherMinistry$Realm" "sun" "[I" ∈ wsX7_takeBack := by decide +kernel
theorem kfX7_takeBack_188 : Cond.fieldLink RX7 188 "WeatherMinistry$Realm" "books" "LWeatherMinistry$Books;" ∈ wsX7_takeBack := by decide +kernel
theorem kiX7_takeBack_X0 : ∀ w ∈ u_ws RX0 TX0 8, w ∈ wsX7_takeBack := by decide +kernel
theorem kfX7_takeBack_304 : Cond.fieldLink RX7 304 "WeatherMinistry$Books" "paid" "I" ∈ wsX7_takeBack := by decide +kernel
theorem kfX7_takeBack_53 : Cond.fieldLink RX7 53 "WeatherMinistry" "latest" "LWeatherMinistry$Reason;" ∈ wsX7_takeBack := by decide +kernel
def f_X7_takeBack (x1 : Int32) (σ : sg_S) : Option (Int32 × sg_S) := sg_bnd (f_X1_isThere x1 (sg_e1 9 σ)) (fun r1 => (if r1 = 0 then some ((-1), σ) else sg_grd (sg_in x1 8) (sg_let (σ 10 x1.toNatClampNeg) (fun y4 => sg_let (σ 11 x1.toNatClampNeg) (fun y5 => sg_bnd (f_X7_isTown y4) (fun r6 => (if r6 = 0 then some ((-1), σ) else sg_grd (sg_in y4 5) ((if σ 2 y4.toNatClampNeg < y5 then sg_bnd2 (f_X4_keep 4 (σ 2 y4.toNatClampNeg) (sg_e1 14 σ)) (fun r16 τ14 => sg_let (sg_m1 14 1 σ τ14) (fun σ17 => some (r16, σ17))) else sg_let (sg_up σ 2 (y4.toNatClampNeg) ((σ 2 y4.toNatClampNeg) - y5)) (fun σ9 => sg_let (sg_up σ9 13 1 ((σ9 13 1) + y5)) (fun σ10 => sg_bnd (f_X1_remove x1 (sg_e1 9 σ10)) (fun τ11 => sg_let (sg_m1 9 4 σ10 τ11) (fun σ13 => some (σ13 2 y4.toNatClampNeg, σ13))))))))))))))
set_option maxHeartbeats 4000000 in
set_option maxRecDepth 100000 in
theorem c_X7_takeBack (l : Launch) {D : va_G} {Y : Nat → ClassId} {Z : (Nat → Prop) → State → Heap → Prop} (hZ : sg_Zok Z) {ad : Nat → Nat} {σ : sg_S} {σ' : sg_S} {x1 : Int32} {r : Int32} (hF : f_X7_takeBack x1 σ = some (r, σ')) : sg_MI l yX7_takeBack wsX7_takeBack 3 65 D Y Z [.ref (ad 0), .int x1] (ww_X7TNL Y ad σ) r (ww_X7TNL Y ad σ') := by
  intro sz
  refine sg_enter (own := RX7) (maxL := 4) (ret := (some .int)) (cc := cX7_takeBack) (by decide +kernel) rfl rfl (Nat.le_of_ble_eq_true rfl) hZ ?_
  intro p e s m args below meth c C hr Q hQ hsz
  refine g_lv (lv2 := [(0, .ref (ad 0)), (1, .int x1)]) [0, 1] rfl ?_
  rw [f_X7_takeBack] at hF
  refine g_aload_n 1 C dX7_takeBack_0 rfl rfl rfl ?_
  refine g_get 4 C (own := RX7) (C1 := RX7) (T := TX7) 0 0 (.ref (ad 1)) kiX7_takeBack_X7 kfX7_takeBack_10 rfl dX7_takeBack_1 rfl rfl rfl (by decide) rfl ?_
  refine g_get 7 C (own := RX7) (C1 := RX3) (T := TX3) 1 6 (.ref (ad 9)) kiX7_takeBack_X3 kfX7_takeBack_69 rfl dX7_takeBack_4 rfl rfl rfl (by decide) rfl ?_
  refine g_iload_n 8 C dX7_takeBack_7 rfl rfl rfl ?_
  obtain ⟨r1, q2, hF⟩ := sg_bndE hF
  refine g_callVi 11 C (w2 := (ww_X7TNL Y ad σ)) (As := [.int x1]) (st := []) (n0 := 1) (ci := 3) (q0 := 9) [9, 10, 11, 12] [0, 1, 2, 3, 4, 5, 6, 7, 8, 13, 14] [0, 1, 2, 3, 4, 5, 6, 7, 8, 11, 12, 13, 14, 9, 10] (c_X1_isThere l hZ (ad := (sg_e1 9 ad)) q2) gX7_takeBack_X1_isThere ⟨rfl, by decide +kernel, by decide +kernel, rfl⟩ rfl ⟨Nat.le_of_ble_eq_true rfl, Nat.le_of_ble_eq_true rfl⟩ rfl rfl ⟨rfl, rfl, rfl, by decide, rfl, rfl⟩ rfl rfl (Nat.le_of_ble_eq_true rfl) ⟨Nat.le_refl _, Nat.le_refl _⟩ dX7_takeBack_8 rfl rfl ?_
  refine g_if_ne 14 16 C dX7_takeBack_11 (by decide) rfl hF (fun hF => ?_) (fun hF => ?_)
  · refine g_aload_n 17 C dX7_takeBack_16 rfl rfl rfl ?_
    refine g_get 20 C (own := RX7) (C1 := RX7) (T := TX7) 0 0 (.ref (ad 1)) kiX7_takeBack_X7 kfX7_takeBack_10 rfl dX7_takeBack_17 rfl rfl rfl (by decide) rfl ?_
    refine g_get 23 C (own := RX7) (C1 := RX3) (T := TX3) 1 6 (.ref (ad 9)) kiX7_takeBack_X3 kfX7_takeBack_69 rfl dX7_takeBack_20 rfl rfl rfl (by decide) rfl ?_
    refine g_get 26 C (own := RX7) (C1 := RX1) (T := TX1) 9 1 (.ref (ad 10)) kiX7_takeBack_X1 kfX7_takeBack_98 rfl dX7_takeBack_23 rfl rfl rfl (by decide) rfl ?_
    refine g_iload_n 27 C dX7_takeBack_26 rfl rfl rfl ?_
    obtain ⟨h3, hF⟩ := sg_grdE hF
    refine g_ialdc 28 C 10 (x1.toNatClampNeg) (σ 10 x1.toNatClampNeg) dX7_takeBack_27 rfl rfl rfl h3 rfl ?_
    obtain ⟨y4, ey4, hF⟩ := sg_letE hF
    refine g_top ey4 ?_
    refine g_istore_n 29 C [(2, .int y4), (0, .ref (ad 0)), (1, .int x1)] dX7_takeBack_28 rfl rfl (by decide) rfl ?_
    refine g_aload_n 30 C dX7_takeBack_29 rfl rfl rfl ?_
    refine g_get 33 C (own := RX7) (C1 := RX7) (T := TX7) 0 0 (.ref (ad 1)) kiX7_takeBack_X7 kfX7_takeBack_10 rfl dX7_takeBack_30 rfl rfl rfl (by decide) rfl ?_
    refine g_get 36 C (own := RX7) (C1 := RX3) (T := TX3) 1 6 (.ref (ad 9)) kiX7_takeBack_X3 kfX7_takeBack_69 rfl dX7_takeBack_33 rfl rfl rfl (by decide) rfl ?_
    refine g_get 39 C (own := RX7) (C1 := RX1) (T := TX1) 9 2 (.ref (ad 11)) kiX7_takeBack_X1 kfX7_takeBack_102 rfl dX7_takeBack_36 rfl rfl rfl (by decide) rfl ?_
    refine g_iload_n 40 C dX7_takeBack_39 rfl rfl rfl ?_
    refine g_ialdc 41 C 11 (x1.toNatClampNeg) (σ 11 x1.toNatClampNeg) dX7_takeBack_40 rfl rfl rfl h3 rfl ?_
    obtain ⟨y5, ey5, hF⟩ := sg_letE hF
    refine g_top ey5 ?_
    refine g_istore_n 42 C [(3, .int y5), (2, .int y4), (0, .ref (ad 0)), (1, .int x1)] dX7_takeBack_41 rfl rfl (by decide) rfl ?_
    refine g_iload_n 43 C dX7_takeBack_42 rfl rfl rfl ?_
    obtain ⟨r6, q7, hF⟩ := sg_bndE hF
    refine g_callSi 46 C (w2 := (ww_X7TNL Y ad σ)) (As := [.int y4]) (st := []) (n0 := 1) [] [0, 1, 2, 3, 4, 5, 6, 7, 8, 9, 10, 11, 12, 13, 14] [0, 1, 2, 3, 4, 5, 6, 7, 8, 9, 10, 11, 12, 13, 14] (c_X7_isTown l hZ (ad := ad) (σ := σ) q7) gX7_takeBack_X7_isTown ⟨by decide +kernel, by decide +kernel, rfl⟩ rfl ⟨Nat.le_of_ble_eq_true rfl, Nat.le_of_ble_eq_true rfl⟩ ⟨rfl, rfl, rfl, by decide, rfl, rfl⟩ rfl rfl (Nat.le_of_ble_eq_true rfl) ⟨Nat.le_refl _, Nat.le_refl _⟩ dX7_takeBack_43 rfl rfl ?_
    refine g_if_ne 49 51 C dX7_takeBack_46 (by decide) rfl hF (fun hF => ?_) (fun hF => ?_)
    · refine g_aload_n 52 C dX7_takeBack_51 rfl rfl rfl ?_
      refine g_get 55 C (own := RX7) (C1 := RX7) (T := TX7) 0 0 (.ref (ad 1)) kiX7_takeBack_X7 kfX7_takeBack_10 rfl dX7_takeBack_52 rfl rfl rfl (by decide) rfl ?_
      refine g_get 58 C (own := RX7) (C1 := RX3) (T := TX3) 1 1 (.ref (ad 2)) kiX7_takeBack_X3 kfX7_takeBack_154 rfl dX7_takeBack_55 rfl rfl rfl (by decide) rfl ?_
      refine g_iload_n 59 C dX7_takeBack_58 rfl rfl rfl ?_
      obtain ⟨h8, hF⟩ := sg_grdE hF
      refine g_ialdc 60 C 2 (y4.toNatClampNeg) (σ 2 y4.toNatClampNeg) dX7_takeBack_59 rfl rfl rfl h8 rfl ?_
      refine g_iload_n 61 C dX7_takeBack_60 rfl rfl rfl ?_
      refine g_icmp_ge 64 82 C dX7_takeBack_61 (by decide) rfl hF (fun hF => ?_) (fun hF => ?_)
      · refine g_aload_n 83 C dX7_takeBack_82 rfl rfl rfl ?_
        refine g_get 86 C (own := RX7) (C1 := RX7) (T := TX7) 0 0 (.ref (ad 1)) kiX7_takeBack_X7 kfX7_takeBack_10 rfl dX7_takeBack_83 rfl rfl rfl (by decide) rfl ?_
        refine g_get 89 C (own := RX7) (C1 := RX3) (T := TX3) 1 1 (.ref (ad 2)) kiX7_takeBack_X3 kfX7_takeBack_154 rfl dX7_takeBack_86 rfl rfl rfl (by decide) rfl ?_
        refine g_iload_n 90 C dX7_takeBack_89 rfl rfl rfl ?_
        refine g_dup2 91 C dX7_takeBack_90 rfl rfl rfl ?_
        refine g_ialdc 92 C 2 (y4.toNatClampNeg) (σ 2 y4.toNatClampNeg) dX7_takeBack_91 rfl rfl rfl h8 rfl ?_
        refine g_iload_n 93 C dX7_takeBack_92 rfl rfl rfl ?_
        refine g_isub 94 C dX7_takeBack_93 rfl ?_
        obtain ⟨σ9, eσ9, hF⟩ := sg_letE hF
        refine g_iast 95 C (w2 := (ww_X7TNL Y ad σ9)) 2 dX7_takeBack_94 rfl rfl h8 (by rw [eσ9]; rfl) ?_
        refine g_aload_n 96 C dX7_takeBack_95 rfl rfl rfl ?_
        refine g_get 99 C (own := RX7) (C1 := RX7) (T := TX7) 0 0 (.ref (ad 1)) kiX7_takeBack_X7 kfX7_takeBack_10 rfl dX7_takeBack_96 rfl rfl rfl (by decide) rfl ?_
        refine g_get 102 C (own := RX7) (C1 := RX3) (T := TX3) 1 7 (.ref (ad 13)) kiX7_takeBack_X3 kfX7_takeBack_188 rfl dX7_takeBack_99 rfl rfl rfl (by decide) rfl ?_
        refine g_dup 103 C dX7_takeBack_102 rfl rfl ?_
        refine g_get 106 C (own := RX7) (C1 := RX0) (T := TX0) 13 1 (.int (σ9 13 1)) kiX7_takeBack_X0 kfX7_takeBack_304 rfl dX7_takeBack_103 rfl rfl rfl (by decide) rfl ?_
        refine g_iload_n 107 C dX7_takeBack_106 rfl rfl rfl ?_
        refine g_iadd 108 C dX7_takeBack_107 rfl ?_
        obtain ⟨σ10, eσ10, hF⟩ := sg_letE hF
        refine g_put 111 C (own := RX7) (C1 := RX0) (T := TX0) (w2 := (ww_X7TNL Y ad σ10)) 13 1 tyX0 tyX0_ok nmX0 kiX7_takeBack_X0 kfX7_takeBack_304 rfl rfl (ty := .int) (by decide) rfl rfl (sg_blt rfl) dX7_takeBack_108 rfl rfl rfl (by decide) (by rw [eσ10]; rfl) ?_
        refine g_aload_n 112 C dX7_takeBack_111 rfl rfl rfl ?_
        refine g_get 115 C (own := RX7) (C1 := RX7) (T := TX7) 0 0 (.ref (ad 1)) kiX7_takeBack_X7 kfX7_takeBack_10 rfl dX7_takeBack_112 rfl rfl rfl (by decide) rfl ?_
        refine g_get 118 C (own := RX7) (C1 := RX3) (T := TX3) 1 6 (.ref (ad 9)) kiX7_takeBack_X3 kfX7_takeBack_69 rfl dX7_takeBack_115 rfl rfl rfl (by decide) rfl ?_
        refine g_iload_n 119 C dX7_takeBack_118 rfl rfl rfl ?_
        obtain ⟨τ11, q12, hF⟩ := sg_bndE hF
        obtain ⟨σ13, eσ13, hF⟩ := sg_letE hF
        refine g_callVv 122 C (w2 := (ww_X7TNL Y ad σ13)) (As := [.int x1]) (st := []) (n0 := 1) (ci := 3) (q0 := 9) [9, 10, 11, 12] [0, 1, 2, 3, 4, 5, 6, 7, 8, 13, 14] [0, 1, 2, 3, 4, 5, 6, 7, 8, 11, 12, 13, 14, 9, 10] (c_X1_remove l hZ (ad := (sg_e1 9 ad)) q12) gX7_takeBack_X1_remove ⟨rfl, by decide +kernel, by decide +kernel, rfl⟩ rfl ⟨Nat.le_of_ble_eq_true rfl, Nat.le_of_ble_eq_true rfl⟩ rfl rfl (by subst eσ13; exact ⟨rfl, rfl, rfl, by decide, rfl, rfl⟩) rfl rfl (Nat.le_of_ble_eq_true rfl) ⟨Nat.le_refl _, Nat.le_refl _⟩ dX7_takeBack_119 rfl rfl ?_
        refine g_aload_n 123 C dX7_takeBack_122 rfl rfl rfl ?_
        refine g_get 126 C (own := RX7) (C1 := RX7) (T := TX7) 0 0 (.ref (ad 1)) kiX7_takeBack_X7 kfX7_takeBack_10 rfl dX7_takeBack_123 rfl rfl rfl (by decide) rfl ?_
        refine g_get 129 C (own := RX7) (C1 := RX3) (T := TX3) 1 1 (.ref (ad 2)) kiX7_takeBack_X3 kfX7_takeBack_154 rfl dX7_takeBack_126 rfl rfl rfl (by decide) rfl ?_
        refine g_iload_n 130 C dX7_takeBack_129 rfl rfl rfl ?_
        refine g_ialdc 131 C 2 (y4.toNatClampNeg) (σ13 2 y4.toNatClampNeg) dX7_takeBack_130 rfl rfl rfl h8 rfl ?_
        obtain ⟨e1, e2⟩ := sg_pairE hF
        exact g_iret C hr rfl hQ hsz dX7_takeBack_131 e1.symm (by rw [e2])
      · refine g_aload_n 65 C dX7_takeBack_64 rfl rfl rfl ?_
        refine g_get 68 C (own := RX7) (C1 := RX7) (T := TX7) 0 8 (.ref (ad 14)) kiX7_takeBack_X7 kfX7_takeBack_53 rfl dX7_takeBack_65 rfl rfl rfl (by decide) rfl ?_
        refine g_iconst 69 C 4 dX7_takeBack_68 rfl (by decide) ?_
        refine g_aload_n 70 C dX7_takeBack_69 rfl rfl rfl ?_
        refine g_get 73 C (own := RX7) (C1 := RX7) (T := TX7) 0 0 (.ref (ad 1)) kiX7_takeBack_X7 kfX7_takeBack_10 rfl dX7_takeBack_70 rfl rfl rfl (by decide) rfl ?_
        refine g_get 76 C (own := RX7) (C1 := RX3) (T := TX3) 1 1 (.ref (ad 2)) kiX7_takeBack_X3 kfX7_takeBack_154 rfl dX7_takeBack_73 rfl rfl rfl (by decide) rfl ?_
        refine g_iload_n 77 C dX7_takeBack_76 rfl rfl rfl ?_
        refine g_ialdc 78 C 2 (y4.toNatClampNeg) (σ 2 y4.toNatClampNeg) dX7_takeBack_77 rfl rfl rfl h8 rfl ?_
        obtain ⟨r16, τ14, q15, hF⟩ := sg_bnd2E hF
        obtain ⟨σ17, eσ17, hF⟩ := sg_letE hF
        refine g_callVi 81 C (w2 := (ww_X7TNL Y ad σ17)) (As := [.int 4, .int (σ 2 y4.toNatClampNeg)]) (st := []) (n0 := 2) (ci := 6) (q0 := 14) [14] [0, 1, 2, 3, 4, 5, 6, 7, 8, 9, 10, 11, 12, 13] [0, 1, 2, 3, 4, 5, 6, 7, 8, 9, 10, 11, 12, 13, 14] (c_X4_keep l hZ (ad := (sg_e1 14 ad)) q15) gX7_takeBack_X4_keep ⟨rfl, by decide +kernel, by decide +kernel, rfl⟩ rfl ⟨Nat.le_of_ble_eq_true rfl, Nat.le_of_ble_eq_true rfl⟩ rfl rfl (by subst eσ17; exact ⟨rfl, rfl, rfl, by decide, rfl, rfl⟩) rfl rfl (Nat.le_of_ble_eq_true rfl) ⟨Nat.le_refl _, Nat.le_refl _⟩ dX7_takeBack_78 rfl rfl ?_
        obtain ⟨e1, e2⟩ := sg_pairE hF
        exact g_iret C hr rfl hQ hsz dX7_takeBack_81 e1.symm (by rw [e2])
    · refine g_iconst 50 C (-1) dX7_takeBack_49 rfl (by decide) ?_
      obtain ⟨e1, e2⟩ := sg_pairE hF
      exact g_iret C hr rfl hQ hsz dX7_takeBack_50 e1.symm (by rw [e2])
  · refine g_iconst 15 C (-1) dX7_takeBack_14 rfl (by decide) ?_
    obtain ⟨e1, e2⟩ := sg_pairE hF
    exact g_iret C hr rfl hQ hsz dX7_takeBack_15 e1.symm (by rw [e2])
theorem kiX7_pour_X7 : ∀ w ∈ u_ws RX7 TX7 10, w ∈ wsX7_pour := by decide +kernel
theorem kfX7_pour_10 : Cond.fieldLink RX7 10 "WeatherMinistry" "now" "LWeatherMinistry$Realm;" ∈ wsX7_pour := by decide +kernel
def f_X7_pour (x1 : Int32) (x2 : Int32) (σ : sg_S) : Option (Int32 × sg_S) := sg_bnd (f_X7_isTown x1) (fun r1 => (if r1 = 0 then some ((-1), σ) else sg_bnd (f_X7_isHours x2) (fun r3 => (if r3 = 0 then some ((-2), σ) else sg_bnd2 (f_X3_letRain x1 x2 (sg_e1 1 σ)) (fun r7 τ5 => sg_let (sg_m1 1 13 σ τ5) (fun σ8 => some (r7, σ8)))))))
set_option maxHeartbeats 4000000 in
set_option maxRecDepth 100000 in
theorem c_X7_pour (l : Launch) {D : va_G} {Y : Nat → ClassId} {Z : (Nat → Prop) → State → Heap → Prop} (hZ : sg_Zok Z) {ad : Nat → Nat} {σ : sg_S} {σ' : sg_S} {x1 x2 : Int32} {r : Int32} (hF : f_X7_pour x1 x2 σ = some (r, σ')) : sg_MI l yX7_pour wsX7_pour 2 50 D Y Z [.ref (ad 0), .int x1, .int x2] (ww_X7TNL Y ad σ) r (ww_X7TNL Y ad σ') := by
  intro sz
  refine sg_enter (own := RX7) (maxL := 3) (ret := (some .int)) (cc := cX7_pour) (by decide +kernel) rfl rfl (Nat.le_of_ble_eq_true rfl) hZ ?_
  intro p e s m args below meth c C hr Q hQ hsz
  refine g_lv (lv2 := [(0, .ref (ad 0)), (1, .int x1), (2, .int x2)]) [0, 1, 2] rfl ?_
  rw [f_X7_pour] at hF
  refine g_iload_n 1 C dX7_pour_0 rfl rfl rfl ?_
  obtain ⟨r1, q2, hF⟩ := sg_bndE hF
  refine g_callSi 4 C (w2 := (ww_X7TNL Y ad σ)) (As := [.int x1]) (st := []) (n0 := 1) [] [0, 1, 2, 3, 4, 5, 6, 7, 8, 9, 10, 11, 12, 13, 14] [0, 1, 2, 3, 4, 5, 6, 7, 8, 9, 10, 11, 12, 13, 14] (c_X7_isTown l hZ (ad := ad) (σ := σ) q2) gX7_pour_X7_isTown ⟨by decide +kernel, by decide +kernel, rfl⟩ rfl ⟨Nat.le_of_ble_eq_true rfl, Nat.le_of_ble_eq_true rfl⟩ ⟨rfl, rfl, rfl, by decide, rfl, rfl⟩ rfl rfl (Nat.le_of_ble_eq_true rfl) ⟨Nat.le_refl _, Nat.le_refl _⟩ dX7_pour_1 rfl rfl ?_
  refine g_if_ne 7 9 C dX7_pour_4 (by decide) rfl hF (fun hF => ?_) (fun hF => ?_)
  · refine g_iload_n 10 C dX7_pour_9 rfl rfl rfl ?_
    obtain ⟨r3, q4, hF⟩ := sg_bndE hF
    refine g_callSi 13 C (w2 := (ww_X7TNL Y ad σ)) (As := [.int x2]) (st := []) (n0 := 1) [] [0, 1, 2, 3, 4, 5, 6, 7, 8, 9, 10, 11, 12, 13, 14] [0, 1, 2, 3, 4, 5, 6, 7, 8, 9, 10, 11, 12, 13, 14] (c_X7_isHours l hZ (ad := ad) (σ := σ) q4) gX7_pour_X7_isHours ⟨by decide +kernel, by decide +kernel, rfl⟩ rfl ⟨Nat.le_of_ble_eq_true rfl, Nat.le_of_ble_eq_true rfl⟩ ⟨rfl, rfl, rfl, by decide, rfl, rfl⟩ rfl rfl (Nat.le_of_ble_eq_true rfl) ⟨Nat.le_refl _, Nat.le_refl _⟩ dX7_pour_10 rfl rfl ?_
    refine g_if_eq 16 28 C dX7_pour_13 (by decide) rfl hF (fun hF => ?_) (fun hF => ?_)
    · refine g_bipush 30 C (-2) dX7_pour_28 rfl (by decide) ?_
      obtain ⟨e1, e2⟩ := sg_pairE hF
      exact g_iret C hr rfl hQ hsz dX7_pour_30 e1.symm (by rw [e2])
    · refine g_aload_n 17 C dX7_pour_16 rfl rfl rfl ?_
      refine g_get 20 C (own := RX7) (C1 := RX7) (T := TX7) 0 0 (.ref (ad 1)) kiX7_pour_X7 kfX7_pour_10 rfl dX7_pour_17 rfl rfl rfl (by decide) rfl ?_
      refine g_iload_n 21 C dX7_pour_20 rfl rfl rfl ?_
      refine g_iload_n 22 C dX7_pour_21 rfl rfl rfl ?_
      obtain ⟨r7, τ5, q6, hF⟩ := sg_bnd2E hF
      obtain ⟨σ8, eσ8, hF⟩ := sg_letE hF
      refine g_callVi 25 C (w2 := (ww_X7TNL Y ad σ8)) (As := [.int x1, .int x2]) (st := []) (n0 := 2) (ci := 5) (q0 := 1) [1, 2, 3, 4, 5, 6, 7, 8, 9, 10, 11, 12, 13] [0, 14] [0, 2, 3, 4, 5, 6, 7, 8, 9, 10, 11, 12, 13, 14, 1] (c_X3_letRain l hZ (ad := (sg_e1 1 ad)) q6) gX7_pour_X3_letRain ⟨rfl, by decide +kernel, by decide +kernel, rfl⟩ rfl ⟨Nat.le_of_ble_eq_true rfl, Nat.le_of_ble_eq_true rfl⟩ rfl rfl (by subst eσ8; exact ⟨rfl, rfl, rfl, by decide, rfl, rfl⟩) rfl rfl (Nat.le_of_ble_eq_true rfl) ⟨Nat.le_refl _, Nat.le_refl _⟩ dX7_pour_22 rfl rfl ?_
      refine g_goto 30 C dX7_pour_25 (by decide) ?_
      obtain ⟨e1, e2⟩ := sg_pairE hF
      exact g_iret C hr rfl hQ hsz dX7_pour_30 e1.symm (by rw [e2])
  · refine g_iconst 8 C (-1) dX7_pour_7 rfl (by decide) ?_
    obtain ⟨e1, e2⟩ := sg_pairE hF
    exact g_iret C hr rfl hQ hsz dX7_pour_8 e1.symm (by rw [e2])
theorem kiX7_pledge_X7 : ∀ w ∈ u_ws RX7 TX7 10, w ∈ wsX7_pledge := by decide +kernel
theorem kfX7_pledge_10 : Cond.fieldLink RX7 10 "WeatherMinistry" "now" "LWeatherMinistry$Realm;" ∈ wsX7_pledge := by decide +kernel
theorem kiX7_pledge_X3 : ∀ w ∈ u_ws RX3 TX3 8, w ∈ wsX7_pledge := by decide +kernel
theorem kfX7_pledge_148 : Cond.fieldLink RX7 148 "WeatherMinistry$Realm" "arrears" "[I" ∈ wsX7_pledge := by decide +kernel
theorem kfX7_pledge_206 : Cond.fieldLink RX7 206 "WeatherMinistry$Realm" "umbrellas" "[I" ∈ wsX7_pledge := by decide +kernel
theorem kmX7_pledge_313 : Cond.methodLink RX7 313 Lib.Math.max.name ∈ wsX7_pledge := by decide +kernel
theorem ksX7_pledge_mmax : Cond.static Lib.Math.max.name ∈ wsX7_pledge := by decide +kernel
theorem knX7_pledge_math : Cond.initialized "java/lang/Math" ∈ wsX7_pledge := by decide +kernel
theorem kcX7_pledge_mmax : Cond.code Lib.Math.max.name Lib.Math.max.code 2 (some .int) ∈ wsX7_pledge := by decide +kernel
theorem kfX7_pledge_53 : Cond.fieldLink RX7 53 "WeatherMinistry" "latest" "LWeatherMinistry$Reason;" ∈ wsX7_pledge := by decide +kernel
def f_X7_pledge (x1 : Int32) (x2 : Int32) (σ : sg_S) : Option (Int32 × sg_S) := sg_bnd (f_X7_isTown x1) (fun r1 => (if r1 = 0 then some ((-1), σ) else (if 1 ≤ x2 then (if 9 < x2 then some ((-2), σ) else sg_grd (sg_in x1 5) ((if σ 5 x1.toNatClampNeg = 0 then sg_bnd2 (f_X4_keep 5 (σ 4 x1.toNatClampNeg) (sg_e1 14 σ)) (fun r12 τ10 => sg_let (sg_m1 14 1 σ τ10) (fun σ13 => some (r12, σ13))) else (if σ 4 x1.toNatClampNeg < x2 then sg_bnd2 (f_X4_keep 6 (σ 4 x1.toNatClampNeg) (sg_e1 14 σ)) (fun r8 τ6 => sg_let (sg_m1 14 1 σ τ6) (fun σ9 => some (r8, σ9))) else sg_let (sg_up σ 4 (x1.toNatClampNeg) ((σ 4 x1.toNatClampNeg) - x2)) (fun σ4 => sg_let (sg_up σ4 5 (x1.toNatClampNeg) (if 0 < (σ4 5 x1.toNatClampNeg) - (3 * x2) then (σ4 5 x1.toNatClampNeg) - (3 * x2) else 0)) (fun σ5 => some (σ5 5 x1.toNatClampNeg, σ5))))))) else some ((-2), σ))))
set_option maxHeartbeats 4000000 in
set_option maxRecDepth 100000 in
theorem c_X7_pledge (l : Launch) {D : va_G} {Y : Nat → ClassId} {Z : (Nat → Prop) → State → Heap → Prop} (hZ : sg_Zok Z) {ad : Nat → Nat} {σ : sg_S} {σ' : sg_S} {x1 x2 : Int32} {r : Int32} (hF : f_X7_pledge x1 x2 σ = some (r, σ')) : sg_MI l yX7_pledge wsX7_pledge 1 22 D Y Z [.ref (ad 0), .int x1, .int x2] (ww_X7TNL Y ad σ) r (ww_X7TNL Y ad σ') := by
  intro sz
  refine sg_enter (own := RX7) (maxL := 3) (ret := (some .int)) (cc := cX7_pledge) (by decide +kernel) rfl rfl (Nat.le_of_ble_eq_true rfl) hZ ?_
  intro p e s m args below meth c C hr Q hQ hsz
  refine g_lv (lv2 := [(0, .ref (ad 0)), (1, .int x1), (2, .int x2)]) [0, 1, 2] rfl ?_
  rw [f_X7_pledge] at hF
  refine g_iload_n 1 C dX7_pledge_0 rfl rfl rfl ?_
  obtain ⟨r1, q2, hF⟩ := sg_bndE hF
  refine g_callSi 4 C (w2 := (ww_X7TNL Y ad σ)) (As := [.int x1]) (st := []) (n0 := 1) [] [0, 1, 2, 3, 4, 5, 6, 7, 8, 9, 10, 11, 12, 13, 14] [0, 1, 2, 3, 4, 5, 6, 7, 8, 9, 10, 11, 12, 13, 14] (c_X7_isTown l hZ (ad := ad) (σ := σ) q2) gX7_pledge_X7_isTown ⟨by decide +kernel, by decide +kernel, rfl⟩ rfl ⟨Nat.le_of_ble_eq_true rfl, Nat.le_of_ble_eq_true rfl⟩ ⟨rfl, rfl, rfl, by decide, rfl, rfl⟩ rfl rfl (Nat.le_of_ble_eq_true rfl) ⟨Nat.le_refl _, Nat.le_refl _⟩ dX7_pledge_1 rfl rfl ?_
  refine g_if_ne 7 9 C dX7_pledge_4 (by decide) rfl hF (fun hF => ?_) (fun hF => ?_)
  · refine g_iload_n 10 C dX7_pledge_9 rfl rfl rfl ?_
    refine g_iconst 11 C 1 dX7_pledge_10 rfl (by decide) ?_
    refine g_icmp_lt 14 20 C dX7_pledge_11 (by decide) rfl hF (fun hF => ?_) (fun hF => ?_)
    · refine g_bipush 22 C (-2) dX7_pledge_20 rfl (by decide) ?_
      obtain ⟨e1, e2⟩ := sg_pairE hF
      exact g_iret C hr rfl hQ hsz dX7_pledge_22 e1.symm (by rw [e2])
    · refine g_iload_n 15 C dX7_pledge_14 rfl rfl rfl ?_
      refine g_bipush 17 C 9 dX7_pledge_15 rfl (by decide) ?_
      refine g_icmp_le 20 23 C dX7_pledge_17 (by decide) rfl hF (fun hF => ?_) (fun hF => ?_)
      · refine g_aload_n 24 C dX7_pledge_23 rfl rfl rfl ?_
        refine g_get 27 C (own := RX7) (C1 := RX7) (T := TX7) 0 0 (.ref (ad 1)) kiX7_pledge_X7 kfX7_pledge_10 rfl dX7_pledge_24 rfl rfl rfl (by decide) rfl ?_
        refine g_get 30 C (own := RX7) (C1 := RX3) (T := TX3) 1 4 (.ref (ad 5)) kiX7_pledge_X3 kfX7_pledge_148 rfl dX7_pledge_27 rfl rfl rfl (by decide) rfl ?_
        refine g_iload_n 31 C dX7_pledge_30 rfl rfl rfl ?_
        obtain ⟨h3, hF⟩ := sg_grdE hF
        refine g_ialdc 32 C 5 (x1.toNatClampNeg) (σ 5 x1.toNatClampNeg) dX7_pledge_31 rfl rfl rfl h3 rfl ?_
        refine g_if_ne 35 53 C dX7_pledge_32 (by decide) rfl hF (fun hF => ?_) (fun hF => ?_)
        · refine g_aload_n 54 C dX7_pledge_53 rfl rfl rfl ?_
          refine g_get 57 C (own := RX7) (C1 := RX7) (T := TX7) 0 0 (.ref (ad 1)) kiX7_pledge_X7 kfX7_pledge_10 rfl dX7_pledge_54 rfl rfl rfl (by decide) rfl ?_
          refine g_get 60 C (own := RX7) (C1 := RX3) (T := TX3) 1 3 (.ref (ad 4)) kiX7_pledge_X3 kfX7_pledge_206 rfl dX7_pledge_57 rfl rfl rfl (by decide) rfl ?_
          refine g_iload_n 61 C dX7_pledge_60 rfl rfl rfl ?_
          refine g_ialdc 62 C 4 (x1.toNatClampNeg) (σ 4 x1.toNatClampNeg) dX7_pledge_61 rfl rfl rfl h3 rfl ?_
          refine g_iload_n 63 C dX7_pledge_62 rfl rfl rfl ?_
          refine g_icmp_ge 66 85 C dX7_pledge_63 (by decide) rfl hF (fun hF => ?_) (fun hF => ?_)
          · refine g_aload_n 86 C dX7_pledge_85 rfl rfl rfl ?_
            refine g_get 89 C (own := RX7) (C1 := RX7) (T := TX7) 0 0 (.ref (ad 1)) kiX7_pledge_X7 kfX7_pledge_10 rfl dX7_pledge_86 rfl rfl rfl (by decide) rfl ?_
            refine g_get 92 C (own := RX7) (C1 := RX3) (T := TX3) 1 3 (.ref (ad 4)) kiX7_pledge_X3 kfX7_pledge_206 rfl dX7_pledge_89 rfl rfl rfl (by decide) rfl ?_
            refine g_iload_n 93 C dX7_pledge_92 rfl rfl rfl ?_
            refine g_dup2 94 C dX7_pledge_93 rfl rfl rfl ?_
            refine g_ialdc 95 C 4 (x1.toNatClampNeg) (σ 4 x1.toNatClampNeg) dX7_pledge_94 rfl rfl rfl h3 rfl ?_
            refine g_iload_n 96 C dX7_pledge_95 rfl rfl rfl ?_
            refine g_isub 97 C dX7_pledge_96 rfl ?_
            obtain ⟨σ4, eσ4, hF⟩ := sg_letE hF
            refine g_iast 98 C (w2 := (ww_X7TNL Y ad σ4)) 4 dX7_pledge_97 rfl rfl h3 (by rw [eσ4]; rfl) ?_
            refine g_aload_n 99 C dX7_pledge_98 rfl rfl rfl ?_
            refine g_get 102 C (own := RX7) (C1 := RX7) (T := TX7) 0 0 (.ref (ad 1)) kiX7_pledge_X7 kfX7_pledge_10 rfl dX7_pledge_99 rfl rfl rfl (by decide) rfl ?_
            refine g_get 105 C (own := RX7) (C1 := RX3) (T := TX3) 1 4 (.ref (ad 5)) kiX7_pledge_X3 kfX7_pledge_148 rfl dX7_pledge_102 rfl rfl rfl (by decide) rfl ?_
            refine g_iload_n 106 C dX7_pledge_105 rfl rfl rfl ?_
            refine g_iconst 107 C 0 dX7_pledge_106 rfl (by decide) ?_
            refine g_aload_n 108 C dX7_pledge_107 rfl rfl rfl ?_
            refine g_get 111 C (own := RX7) (C1 := RX7) (T := TX7) 0 0 (.ref (ad 1)) kiX7_pledge_X7 kfX7_pledge_10 rfl dX7_pledge_108 rfl rfl rfl (by decide) rfl ?_
            refine g_get 114 C (own := RX7) (C1 := RX3) (T := TX3) 1 4 (.ref (ad 5)) kiX7_pledge_X3 kfX7_pledge_148 rfl dX7_pledge_111 rfl rfl rfl (by decide) rfl ?_
            refine g_iload_n 115 C dX7_pledge_114 rfl rfl rfl ?_
            refine g_ialdc 116 C 5 (x1.toNatClampNeg) (σ4 5 x1.toNatClampNeg) dX7_pledge_115 rfl rfl rfl h3 rfl ?_
            refine g_iconst 117 C 3 dX7_pledge_116 rfl (by decide) ?_
            refine g_iload_n 118 C dX7_pledge_117 rfl rfl rfl ?_
            refine g_imul 119 C dX7_pledge_118 rfl ?_
            refine g_isub 120 C dX7_pledge_119 rfl ?_
            refine g_mmax 123 C kmX7_pledge_313 ksX7_pledge_mmax knX7_pledge_math kcX7_pledge_mmax (Nat.le_of_ble_eq_true rfl) (Nat.le_of_ble_eq_true rfl) (Nat.le_refl _) (Nat.le_refl _) dX7_pledge_120 rfl ?_
            obtain ⟨σ5, eσ5, hF⟩ := sg_letE hF
            refine g_iast 124 C (w2 := (ww_X7TNL Y ad σ5)) 5 dX7_pledge_123 rfl rfl h3 (by rw [eσ5]; rfl) ?_
            refine g_aload_n 125 C dX7_pledge_124 rfl rfl rfl ?_
            refine g_get 128 C (own := RX7) (C1 := RX7) (T := TX7) 0 0 (.ref (ad 1)) kiX7_pledge_X7 kfX7_pledge_10 rfl dX7_pledge_125 rfl rfl rfl (by decide) rfl ?_
            refine g_get 131 C (own := RX7) (C1 := RX3) (T := TX3) 1 4 (.ref (ad 5)) kiX7_pledge_X3 kfX7_pledge_148 rfl dX7_pledge_128 rfl rfl rfl (by decide) rfl ?_
            refine g_iload_n 132 C dX7_pledge_131 rfl rfl rfl ?_
            refine g_ialdc 133 C 5 (x1.toNatClampNeg) (σ5 5 x1.toNatClampNeg) dX7_pledge_132 rfl rfl rfl h3 rfl ?_
            obtain ⟨e1, e2⟩ := sg_pairE hF
            exact g_iret C hr rfl hQ hsz dX7_pledge_133 e1.symm (by rw [e2])
          · refine g_aload_n 67 C dX7_pledge_66 rfl rfl rfl ?_
            refine g_get 70 C (own := RX7) (C1 := RX7) (T := TX7) 0 8 (.ref (ad 14)) kiX7_pledge_X7 kfX7_pledge_53 rfl dX7_pledge_67 rfl rfl rfl (by decide) rfl ?_
            refine g_bipush 72 C 6 dX7_pledge_70 rfl (by decide) ?_
            refine g_aload_n 73 C dX7_pledge_72 rfl rfl rfl ?_
            refine g_get 76 C (own := RX7) (C1 := RX7) (T := TX7) 0 0 (.ref (ad 1)) kiX7_pledge_X7 kfX7_pledge_10 rfl dX7_pledge_73 rfl rfl rfl (by decide) rfl ?_
            refine g_get 79 C (own := RX7) (C1 := RX3) (T := TX3) 1 3 (.ref (ad 4)) kiX7_pledge_X3 kfX7_pledge_206 rfl dX7_pledge_76 rfl rfl rfl (by decide) rfl ?_
            refine g_iload_n 80 C dX7_pledge_79 rfl rfl rfl ?_
            refine g_ialdc 81 C 4 (x1.toNatClampNeg) (σ 4 x1.toNatClampNeg) dX7_pledge_80 rfl rfl rfl h3 rfl ?_
            obtain ⟨r8, τ6, q7, hF⟩ := sg_bnd2E hF
            obtain ⟨σ9, eσ9, hF⟩ := sg_letE hF
            refine g_callVi 84 C (w2 := (ww_X7TNL Y ad σ9)) (As := [.int 6, .int (σ 4 x1.toNatClampNeg)]) (st := []) (n0 := 2) (ci := 6) (q0 := 14) [14] [0, 1, 2, 3, 4, 5, 6, 7, 8, 9, 10, 11, 12, 13] [0, 1, 2, 3, 4, 5, 6, 7, 8, 9, 10, 11, 12, 13, 14] (c_X4_keep l hZ (ad := (sg_e1 14 ad)) q7) gX7_pledge_X4_keep ⟨rfl, by decide +kernel, by decide +kernel, rfl⟩ rfl ⟨Nat.le_of_ble_eq_true rfl, Nat.le_of_ble_eq_true rfl⟩ rfl rfl (by subst eσ9; exact ⟨rfl, rfl, rfl, by decide, rfl, rfl⟩) rfl rfl (Nat.le_of_ble_eq_true rfl) ⟨Nat.le_refl _, Nat.le_refl _⟩ dX7_pledge_81 rfl rfl ?_
            obtain ⟨e1, e2⟩ := sg_pairE hF
            exact g_iret C hr rfl hQ hsz dX7_pledge_84 e1.symm (by rw [e2])
        · refine g_aload_n 36 C dX7_pledge_35 rfl rfl rfl ?_
          refine g_get 39 C (own := RX7) (C1 := RX7) (T := TX7) 0 8 (.ref (ad 14)) kiX7_pledge_X7 kfX7_pledge_53 rfl dX7_pledge_36 rfl rfl rfl (by decide) rfl ?_
          refine g_iconst 40 C 5 dX7_pledge_39 rfl (by decide) ?_
          refine g_aload_n 41 C dX7_pledge_40 rfl rfl rfl ?_
          refine g_get 44 C (own := RX7) (C1 := RX7) (T := TX7) 0 0 (.ref (ad 1)) kiX7_pledge_X7 kfX7_pledge_10 rfl dX7_pledge_41 rfl rfl rfl (by decide) rfl ?_
          refine g_get 47 C (own := RX7) (C1 := RX3) (T := TX3) 1 3 (.ref (ad 4)) kiX7_pledge_X3 kfX7_pledge_206 rfl dX7_pledge_44 rfl rfl rfl (by decide) rfl ?_
          refine g_iload_n 48 C dX7_pledge_47 rfl rfl rfl ?_
          refine g_ialdc 49 C 4 (x1.toNatClampNeg) (σ 4 x1.toNatClampNeg) dX7_pledge_48 rfl rfl rfl h3 rfl ?_
          obtain ⟨r12, τ10, q11, hF⟩ := sg_bnd2E hF
          obtain ⟨σ13, eσ13, hF⟩ := sg_letE hF
          refine g_callVi 52 C (w2 := (ww_X7TNL Y ad σ13)) (As := [.int 5, .int (σ 4 x1.toNatClampNeg)]) (st := []) (n0 := 2) (ci := 6) (q0 := 14) [14] [0, 1, 2, 3, 4, 5, 6, 7, 8, 9, 10, 11, 12, 13] [0, 1, 2, 3, 4, 5, 6, 7, 8, 9, 10, 11, 12, 13, 14] (c_X4_keep l hZ (ad := (sg_e1 14 ad)) q11) gX7_pledge_X4_keep ⟨rfl, by decide +kernel, by decide +kernel, rfl⟩ rfl ⟨Nat.le_of_ble_eq_true rfl, Nat.le_of_ble_eq_true rfl⟩ rfl rfl (by subst eσ13; exact ⟨rfl, rfl, rfl, by decide, rfl, rfl⟩) rfl rfl (Nat.le_of_ble_eq_true rfl) ⟨Nat.le_refl _, Nat.le_refl _⟩ dX7_pledge_49 rfl rfl ?_
          obtain ⟨e1, e2⟩ := sg_pairE hF
          exact g_iret C hr rfl hQ hsz dX7_pledge_52 e1.symm (by rw [e2])
      · refine g_bipush 22 C (-2) dX7_pledge_20 rfl (by decide) ?_
        obtain ⟨e1, e2⟩ := sg_pairE hF
        exact g_iret C hr rfl hQ hsz dX7_pledge_22 e1.symm (by rw [e2])
  · refine g_iconst 8 C (-1) dX7_pledge_7 rfl (by decide) ?_
    obtain ⟨e1, e2⟩ := sg_pairE hF
    exact g_iret C hr rfl hQ hsz dX7_pledge_8 e1.symm (by rw [e2])
theorem kiX7_sell_X7 : ∀ w ∈ u_ws RX7 TX7 10, w ∈ wsX7_sell := by decide +kernel
theorem kfX7_sell_10 : Cond.fieldLink RX7 10 "WeatherMinistry" "now" "LWeatherMinistry$Realm;" ∈ wsX7_sell := by decide +kernel
theorem kiX7_sell_X3 : ∀ w ∈ u_ws RX3 TX3 8, w ∈ wsX7_sell := by decide +kernel
theorem kfX7_sell_206 : Cond.fieldLink RX7 206 "WeatherMinistry$Realm" "umbrellas" "[I" ∈ wsX7_sell := by decide +kernel
theorem kfX7_sell_154 : Cond.fieldLink RX7 154 "WeatherMinistry$Realm" "sun" "[I" ∈ wsX7_sell := by decide +kernel
theorem kfX7_sell_188 : Cond.fieldLink RX7 188 "WeatherMinistry$Realm" "books" "LWeatherMinistry$Books;" ∈ wsX7_sell := by decide +kernel
theorem kiX7_sell_X0 : ∀ w ∈ u_ws RX0 TX0 8, w ∈ wsX7_sell := by decide +kernel
theorem kfX7_sell_316 : Cond.fieldLink RX7 316 "WeatherMinistry$Books" "spent" "I" ∈ wsX7_sell := by decide +kernel
theorem kfX7_sell_53 : Cond.fieldLink RX7 53 "WeatherMinistry" "latest" "LWeatherMinistry$Reason;" ∈ wsX7_sell := by decide +kernel
def f_X7_sell (x1 : Int32) (σ : sg_S) : Option (Int32 × sg_S) := sg_bnd (f_X7_isTown x1) (fun r1 => (if r1 = 0 then some ((-1), σ) else sg_grd (sg_in x1 5) ((if 9 ≤ σ 4 x1.toNatClampNeg then sg_bnd2 (f_X4_keep 1 (σ 4 x1.toNatClampNeg) (sg_e1 14 σ)) (fun r13 τ11 => sg_let (sg_m1 14 1 σ τ11) (fun σ14 => some (r13, σ14))) else (if σ 2 x1.toNatClampNeg < 4 then sg_bnd2 (f_X4_keep 4 (σ 2 x1.toNatClampNeg) (sg_e1 14 σ)) (fun r9 τ7 => sg_let (sg_m1 14 1 σ τ7) (fun σ10 => some (r9, σ10))) else sg_let (sg_up σ 2 (x1.toNatClampNeg) ((σ 2 x1.toNatClampNeg) - 4)) (fun σ4 => sg_let (sg_up σ4 13 2 ((σ4 13 2) + 4)) (fun σ5 => sg_let (sg_up σ5 4 (x1.toNatClampNeg) ((σ5 4 x1.toNatClampNeg) + 1)) (fun σ6 => some (σ6 4 x1.toNatClampNeg, σ6)))))))))
set_option maxHeartbeats 4000000 in
set_option maxRecDepth 100000 in
theorem c_X7_sell (l : Launch) {D : va_G} {Y : Nat → ClassId} {Z : (Nat → Prop) → State → Heap → Prop} (hZ : sg_Zok Z) {ad : Nat → Nat} {σ : sg_S} {σ' : sg_S} {x1 : Int32} {r : Int32} (hF : f_X7_sell x1 σ = some (r, σ')) : sg_MI l yX7_sell wsX7_sell 1 22 D Y Z [.ref (ad 0), .int x1] (ww_X7TNL Y ad σ) r (ww_X7TNL Y ad σ') := by
  intro sz
  refine sg_enter (own := RX7) (maxL := 2) (ret := (some .int)) (cc := cX7_sell) (by decide +kernel) rfl rfl (Nat.le_of_ble_eq_true rfl) hZ ?_
  intro p e s m args below meth c C hr Q hQ hsz
  refine g_lv (lv2 := [(0, .ref (ad 0)), (1, .int x1)]) [0, 1] rfl ?_
  rw [f_X7_sell] at hF
  refine g_iload_n 1 C dX7_sell_0 rfl rfl rfl ?_
  obtain ⟨r1, q2, hF⟩ := sg_bndE hF
  refine g_callSi 4 C (w2 := (ww_X7TNL Y ad σ)) (As := [.int x1]) (st := []) (n0 := 1) [] [0, 1, 2, 3, 4, 5, 6, 7, 8, 9, 10, 11, 12, 13, 14] [0, 1, 2, 3, 4, 5, 6, 7, 8, 9, 10, 11, 12, 13, 14] (c_X7_isTown l hZ (ad := ad) (σ := σ) q2) gX7_sell_X7_isTown ⟨by decide +kernel, by decide +kernel, rfl⟩ rfl ⟨Nat.le_of_ble_eq_true rfl, Nat.le_of_ble_eq_true rfl⟩ ⟨rfl, rfl, rfl, by decide, rfl, rfl⟩ rfl rfl (Nat.le_of_ble_eq_true rfl) ⟨Nat.le_refl _, Nat.le_refl _⟩ dX7_sell_1 rfl rfl ?_
  refine g_if_ne 7 9 C dX7_sell_4 (by decide) rfl hF (fun hF => ?_) (fun hF => ?_)
  · refine g_aload_n 10 C dX7_sell_9 rfl rfl rfl ?_
    refine g_get 13 C (own := RX7) (C1 := RX7) (T := TX7) 0 0 (.ref (ad 1)) kiX7_sell_X7 kfX7_sell_10 rfl dX7_sell_10 rfl rfl rfl (by decide) rfl ?_
    refine g_get 16 C (own := RX7) (C1 := RX3) (T := TX3) 1 3 (.ref (ad 4)) kiX7_sell_X3 kfX7_sell_206 rfl dX7_sell_13 rfl rfl rfl (by decide) rfl ?_
    refine g_iload_n 17 C dX7_sell_16 rfl rfl rfl ?_
    obtain ⟨h3, hF⟩ := sg_grdE hF
    refine g_ialdc 18 C 4 (x1.toNatClampNeg) (σ 4 x1.toNatClampNeg) dX7_sell_17 rfl rfl rfl h3 rfl ?_
    refine g_bipush 20 C 9 dX7_sell_18 rfl (by decide) ?_
    refine g_icmp_lt 23 41 C dX7_sell_20 (by decide) rfl hF (fun hF => ?_) (fun hF => ?_)
    · refine g_aload_n 42 C dX7_sell_41 rfl rfl rfl ?_
      refine g_get 45 C (own := RX7) (C1 := RX7) (T := TX7) 0 0 (.ref (ad 1)) kiX7_sell_X7 kfX7_sell_10 rfl dX7_sell_42 rfl rfl rfl (by decide) rfl ?_
      refine g_get 48 C (own := RX7) (C1 := RX3) (T := TX3) 1 1 (.ref (ad 2)) kiX7_sell_X3 kfX7_sell_154 rfl dX7_sell_45 rfl rfl rfl (by decide) rfl ?_
      refine g_iload_n 49 C dX7_sell_48 rfl rfl rfl ?_
      refine g_ialdc 50 C 2 (x1.toNatClampNeg) (σ 2 x1.toNatClampNeg) dX7_sell_49 rfl rfl rfl h3 rfl ?_
      refine g_iconst 51 C 4 dX7_sell_50 rfl (by decide) ?_
      refine g_icmp_ge 54 72 C dX7_sell_51 (by decide) rfl hF (fun hF => ?_) (fun hF => ?_)
      · refine g_aload_n 73 C dX7_sell_72 rfl rfl rfl ?_
        refine g_get 76 C (own := RX7) (C1 := RX7) (T := TX7) 0 0 (.ref (ad 1)) kiX7_sell_X7 kfX7_sell_10 rfl dX7_sell_73 rfl rfl rfl (by decide) rfl ?_
        refine g_get 79 C (own := RX7) (C1 := RX3) (T := TX3) 1 1 (.ref (ad 2)) kiX7_sell_X3 kfX7_sell_154 rfl dX7_sell_76 rfl rfl rfl (by decide) rfl ?_
        refine g_iload_n 80 C dX7_sell_79 rfl rfl rfl ?_
        refine g_dup2 81 C dX7_sell_80 rfl rfl rfl ?_
        refine g_ialdc 82 C 2 (x1.toNatClampNeg) (σ 2 x1.toNatClampNeg) dX7_sell_81 rfl rfl rfl h3 rfl ?_
        refine g_iconst 83 C 4 dX7_sell_82 rfl (by decide) ?_
        refine g_isub 84 C dX7_sell_83 rfl ?_
        obtain ⟨σ4, eσ4, hF⟩ := sg_letE hF
        refine g_iast 85 C (w2 := (ww_X7TNL Y ad σ4)) 2 dX7_sell_84 rfl rfl h3 (by rw [eσ4]; rfl) ?_
        refine g_aload_n 86 C dX7_sell_85 rfl rfl rfl ?_
        refine g_get 89 C (own := RX7) (C1 := RX7) (T := TX7) 0 0 (.ref (ad 1)) kiX7_sell_X7 kfX7_sell_10 rfl dX7_sell_86 rfl rfl rfl (by decide) rfl ?_
        refine g_get 92 C (own := RX7) (C1 := RX3) (T := TX3) 1 7 (.ref (ad 13)) kiX7_sell_X3 kfX7_sell_188 rfl dX7_sell_89 rfl rfl rfl (by decide) rfl ?_
        refine g_dup 93 C dX7_sell_92 rfl rfl ?_
        refine g_get 96 C (own := RX7) (C1 := RX0) (T := TX0) 13 2 (.int (σ4 13 2)) kiX7_sell_X0 kfX7_sell_316 rfl dX7_sell_93 rfl rfl rfl (by decide) rfl ?_
        refine g_iconst 97 C 4 dX7_sell_96 rfl (by decide) ?_
        refine g_iadd 98 C dX7_sell_97 rfl ?_
        obtain ⟨σ5, eσ5, hF⟩ := sg_letE hF
        refine g_put 101 C (own := RX7) (C1 := RX0) (T := TX0) (w2 := (ww_X7TNL Y ad σ5)) 13 2 tyX0 tyX0_ok nmX0 kiX7_sell_X0 kfX7_sell_316 rfl rfl (ty := .int) (by decide) rfl rfl (sg_blt rfl) dX7_sell_98 rfl rfl rfl (by decide) (by rw [eσ5]; rfl) ?_
        refine g_aload_n 102 C dX7_sell_101 rfl rfl rfl ?_
        refine g_get 105 C (own := RX7) (C1 := RX7) (T := TX7) 0 0 (.ref (ad 1)) kiX7_sell_X7 kfX7_sell_10 rfl dX7_sell_102 rfl rfl rfl (by decide) rfl ?_
        refine g_get 108 C (own := RX7) (C1 := RX3) (T := TX3) 1 3 (.ref (ad 4)) kiX7_sell_X3 kfX7_sell_206 rfl dX7_sell_105 rfl rfl rfl (by decide) rfl ?_
        refine g_iload_n 109 C dX7_sell_108 rfl rfl rfl ?_
        refine g_dup2 110 C dX7_sell_109 rfl rfl rfl ?_
        refine g_ialdc 111 C 4 (x1.toNatClampNeg) (σ5 4 x1.toNatClampNeg) dX7_sell_110 rfl rfl rfl h3 rfl ?_
        refine g_iconst 112 C 1 dX7_sell_111 rfl (by decide) ?_
        refine g_iadd 113 C dX7_sell_112 rfl ?_
        obtain ⟨σ6, eσ6, hF⟩ := sg_letE hF
        refine g_iast 114 C (w2 := (ww_X7TNL Y ad σ6)) 4 dX7_sell_113 rfl rfl h3 (by rw [eσ6]; rfl) ?_
        refine g_aload_n 115 C dX7_sell_114 rfl rfl rfl ?_
        refine g_get 118 C (own := RX7) (C1 := RX7) (T := TX7) 0 0 (.ref (ad 1)) kiX7_sell_X7 kfX7_sell_10 rfl dX7_sell_115 rfl rfl rfl (by decide) rfl ?_
        refine g_get 121 C (own := RX7) (C1 := RX3) (T := TX3) 1 3 (.ref (ad 4)) kiX7_sell_X3 kfX7_sell_206 rfl dX7_sell_118 rfl rfl rfl (by decide) rfl ?_
        refine g_iload_n 122 C dX7_sell_121 rfl rfl rfl ?_
        refine g_ialdc 123 C 4 (x1.toNatClampNeg) (σ6 4 x1.toNatClampNeg) dX7_sell_122 rfl rfl rfl h3 rfl ?_
        obtain ⟨e1, e2⟩ := sg_pairE hF
        exact g_iret C hr rfl hQ hsz dX7_sell_123 e1.symm (by rw [e2])
      · refine g_aload_n 55 C dX7_sell_54 rfl rfl rfl ?_
        refine g_get 58 C (own := RX7) (C1 := RX7) (T := TX7) 0 8 (.ref (ad 14)) kiX7_sell_X7 kfX7_sell_53 rfl dX7_sell_55 rfl rfl rfl (by decide) rfl ?_
        refine g_iconst 59 C 4 dX7_sell_58 rfl (by decide) ?_
        refine g_aload_n 60 C dX7_sell_59 rfl rfl rfl ?_
        refine g_get 63 C (own := RX7) (C1 := RX7) (T := TX7) 0 0 (.ref (ad 1)) kiX7_sell_X7 kfX7_sell_10 rfl dX7_sell_60 rfl rfl rfl (by decide) rfl ?_
        refine g_get 66 C (own := RX7) (C1 := RX3) (T := TX3) 1 1 (.ref (ad 2)) kiX7_sell_X3 kfX7_sell_154 rfl dX7_sell_63 rfl rfl rfl (by decide) rfl ?_
        refine g_iload_n 67 C dX7_sell_66 rfl rfl rfl ?_
        refine g_ialdc 68 C 2 (x1.toNatClampNeg) (σ 2 x1.toNatClampNeg) dX7_sell_67 rfl rfl rfl h3 rfl ?_
        obtain ⟨r9, τ7, q8, hF⟩ := sg_bnd2E hF
        obtain ⟨σ10, eσ10, hF⟩ := sg_letE hF
        refine g_callVi 71 C (w2 := (ww_X7TNL Y ad σ10)) (As := [.int 4, .int (σ 2 x1.toNatClampNeg)]) (st := []) (n0 := 2) (ci := 6) (q0 := 14) [14] [0, 1, 2, 3, 4, 5, 6, 7, 8, 9, 10, 11, 12, 13] [0, 1, 2, 3, 4, 5, 6, 7, 8, 9, 10, 11, 12, 13, 14] (c_X4_keep l hZ (ad := (sg_e1 14 ad)) q8) gX7_sell_X4_keep ⟨rfl, by decide +kernel, by decide +kernel, rfl⟩ rfl ⟨Nat.le_of_ble_eq_true rfl, Nat.le_of_ble_eq_true rfl⟩ rfl rfl (by subst eσ10; exact ⟨rfl, rfl, rfl, by decide, rfl, rfl⟩) rfl rfl (Nat.le_of_ble_eq_true rfl) ⟨Nat.le_refl _, Nat.le_refl _⟩ dX7_sell_68 rfl rfl ?_
        obtain ⟨e1, e2⟩ := sg_pairE hF
        exact g_iret C hr rfl hQ hsz dX7_sell_71 e1.symm (by rw [e2])
    · refine g_aload_n 24 C dX7_sell_23 rfl rfl rfl ?_
      refine g_get 27 C (own := RX7) (C1 := RX7) (T := TX7) 0 8 (.ref (ad 14)) kiX7_sell_X7 kfX7_sell_53 rfl dX7_sell_24 rfl rfl rfl (by decide) rfl ?_
      refine g_iconst 28 C 1 dX7_sell_27 rfl (by decide) ?_
      refine g_aload_n 29 C dX7_sell_28 rfl rfl rfl ?_
      refine g_get 32 C (own := RX7) (C1 := RX7) (T := TX7) 0 0 (.ref (ad 1)) kiX7_sell_X7 kfX7_sell_10 rfl dX7_sell_29 rfl rfl rfl (by decide) rfl ?_
      refine g_get 35 C (own := RX7) (C1 := RX3) (T := TX3) 1 3 (.ref (ad 4)) kiX7_sell_X3 kfX7_sell_206 rfl dX7_sell_32 rfl rfl rfl (by decide) rfl ?_
      refine g_iload_n 36 C dX7_sell_35 rfl rfl rfl ?_
      refine g_ialdc 37 C 4 (x1.toNatClampNeg) (σ 4 x1.toNatClampNeg) dX7_sell_36 rfl rfl rfl h3 rfl ?_
      obtain ⟨r13, τ11, q12, hF⟩ := sg_bnd2E hF
      obtain ⟨σ14, eσ14, hF⟩ := sg_letE hF
      refine g_callVi 40 C (w2 := (ww_X7TNL Y ad σ14)) (As := [.int 1, .int (σ 4 x1.toNatClampNeg)]) (st := []) (n0 := 2) (ci := 6) (q0 := 14) [14] [0, 1, 2, 3, 4, 5, 6, 7, 8, 9, 10, 11, 12, 13] [0, 1, 2, 3, 4, 5, 6, 7, 8, 9, 10, 11, 12, 13, 14] (c_X4_keep l hZ (ad := (sg_e1 14 ad)) q12) gX7_sell_X4_keep ⟨rfl, by decide +kernel, by decide +kernel, rfl⟩ rfl ⟨Nat.le_of_ble_eq_true rfl, Nat.le_of_ble_eq_true rfl⟩ rfl rfl (by subst eσ14; exact ⟨rfl, rfl, rfl, by decide, rfl, rfl⟩) rfl rfl (Nat.le_of_ble_eq_true rfl) ⟨Nat.le_refl _, Nat.le_refl _⟩ dX7_sell_37 rfl rfl ?_
      obtain ⟨e1, e2⟩ := sg_pairE hF
      exact g_iret C hr rfl hQ hsz dX7_sell_40 e1.symm (by rw [e2])
  · refine g_iconst 8 C (-1) dX7_sell_7 rfl (by decide) ?_
    obtain ⟨e1, e2⟩ := sg_pairE hF
    exact g_iret C hr rfl hQ hsz dX7_sell_8 e1.symm (by rw [e2])
theorem kiX7_perform_X7 : ∀ w ∈ u_ws RX7 TX7 10, w ∈ wsX7_perform := by decide +kernel
theorem kfX7_perform_10 : Cond.fieldLink RX7 10 "WeatherMinistry" "now" "LWeatherMinistry$Realm;" ∈ wsX7_perform := by decide +kernel
def f_X7_perform (x1 : Int32) (x2 : Int32) (x3 : Int32) (x4 : Int32) (σ : sg_S) : Option (Int32 × sg_S) := (if x1 = 0 then sg_bnd2 (f_X7_agree x2 x3 1 σ) (fun r3 τ1 => some (r3, τ1)) else (if x1 = 1 then sg_bnd2 (f_X7_agree x2 x3 0 σ) (fun r7 τ5 => some (r7, τ5)) else (if x1 = 2 then sg_bnd2 (f_X7_lend x2 x3 x4 σ) (fun r11 τ9 => some (r11, τ9)) else (if x1 = 3 then sg_bnd2 (f_X7_takeBack x2 σ) (fun r15 τ13 => some (r15, τ13)) else (if x1 = 4 then sg_bnd2 (f_X7_pour x2 x3 σ) (fun r19 τ17 => some (r19, τ17)) else (if x1 = 5 then sg_bnd2 (f_X7_pledge x2 x3 σ) (fun r23 τ21 => some (r23, τ21)) else (if x1 = 6 then sg_bnd2 (f_X7_sell x2 σ) (fun r27 τ25 => some (r27, τ25)) else sg_bnd2 (f_X3_pass  (sg_e1 1 σ)) (fun r31 τ29 => sg_let (sg_m1 1 13 σ τ29) (fun σ32 => some (r31, σ32))))))))))
set_option maxHeartbeats 4000000 in
set_option maxRecDepth 100000 in
theorem c_X7_perform (l : Launch) {D : va_G} {Y : Nat → ClassId} {Z : (Nat → Prop) → State → Heap → Prop} (hZ : sg_Zok Z) {ad : Nat → Nat} {σ : sg_S} {σ' : sg_S} {x1 x2 x3 x4 : Int32} {r : Int32} (hF : f_X7_perform x1 x2 x3 x4 σ = some (r, σ')) : sg_MI l yX7_perform wsX7_perform 4 98 D Y Z [.ref (ad 0), .int x1, .int x2, .int x3, .int x4] (ww_X7TNL Y ad σ) r (ww_X7TNL Y ad σ') := by
  intro sz
  refine sg_enter (own := RX7) (maxL := 5) (ret := (some .int)) (cc := cX7_perform) (by decide +kernel) rfl rfl (Nat.le_of_ble_eq_true rfl) hZ ?_
  intro p e s m args below meth c C hr Q hQ hsz
  refine g_lv (lv2 := [(0, .ref (ad 0)), (1, .int x1), (2, .int x2), (3, .int x3), (4, .int x4)]) [0, 1, 2, 3, 4] rfl ?_
  rw [f_X7_perform] at hF
  refine g_iload_n 1 C dX7_perform_0 rfl rfl rfl ?_
  rcases sg_iteE hF with ⟨c4, hF⟩ | ⟨c4, hF⟩
  · refine g_tsin (off := 43) C 44 0 dX7_perform_1 c4 (by decide) (by decide) (by decide) (by decide) ?_
    refine g_aload_n 45 C dX7_perform_44 rfl rfl rfl ?_
    refine g_iload_n 46 C dX7_perform_45 rfl rfl rfl ?_
    refine g_iload_n 47 C dX7_perform_46 rfl rfl rfl ?_
    refine g_iconst 48 C 1 dX7_perform_47 rfl (by decide) ?_
    obtain ⟨r3, τ1, q2, hF⟩ := sg_bnd2E hF
    refine g_callVi 51 C (w2 := (ww_X7TNL Y ad τ1)) (As := [.int x2, .int x3, .int 1]) (st := []) (n0 := 3) (ci := 9) (q0 := 0) [0, 1, 2, 3, 4, 5, 6, 7, 8, 9, 10, 11, 12, 13, 14] [] [0, 1, 2, 3, 4, 5, 6, 7, 8, 9, 10, 11, 12, 13, 14] (c_X7_agree l hZ (ad := ad) q2) gX7_perform_X7_agree ⟨rfl, by decide +kernel, by decide +kernel, rfl⟩ rfl ⟨Nat.le_of_ble_eq_true rfl, Nat.le_of_ble_eq_true rfl⟩ rfl rfl ⟨rfl, rfl, rfl, by decide, rfl, rfl⟩ rfl rfl (Nat.le_of_ble_eq_true rfl) ⟨Nat.le_refl _, Nat.le_refl _⟩ dX7_perform_48 rfl rfl ?_
    obtain ⟨e1, e2⟩ := sg_pairE hF
    exact g_iret C hr rfl hQ hsz dX7_perform_51 e1.symm (by rw [e2])
  rcases sg_iteE hF with ⟨c8, hF⟩ | ⟨c8, hF⟩
  · refine g_tsin (off := 51) C 52 1 dX7_perform_1 c8 (by decide) (by decide) (by decide) (by decide) ?_
    refine g_aload_n 53 C dX7_perform_52 rfl rfl rfl ?_
    refine g_iload_n 54 C dX7_perform_53 rfl rfl rfl ?_
    refine g_iload_n 55 C dX7_perform_54 rfl rfl rfl ?_
    refine g_iconst 56 C 0 dX7_perform_55 rfl (by decide) ?_
    obtain ⟨r7, τ5, q6, hF⟩ := sg_bnd2E hF
    refine g_callVi 59 C (w2 := (ww_X7TNL Y ad τ5)) (As := [.int x2, .int x3, .int 0]) (st := []) (n0 := 3) (ci := 9) (q0 := 0) [0, 1, 2, 3, 4, 5, 6, 7, 8, 9, 10, 11, 12, 13, 14] [] [0, 1, 2, 3, 4, 5, 6, 7, 8, 9, 10, 11, 12, 13, 14] (c_X7_agree l hZ (ad := ad) q6) gX7_perform_X7_agree ⟨rfl, by decide +kernel, by decide +kernel, rfl⟩ rfl ⟨Nat.le_of_ble_eq_true rfl, Nat.le_of_ble_eq_true rfl⟩ rfl rfl ⟨rfl, rfl, rfl, by decide, rfl, rfl⟩ rfl rfl (Nat.le_of_ble_eq_true rfl) ⟨Nat.le_refl _, Nat.le_refl _⟩ dX7_perform_56 rfl rfl ?_
    obtain ⟨e1, e2⟩ := sg_pairE hF
    exact g_iret C hr rfl hQ hsz dX7_perform_59 e1.symm (by rw [e2])
  rcases sg_iteE hF with ⟨c12, hF⟩ | ⟨c12, hF⟩
  · refine g_tsin (off := 59) C 60 2 dX7_perform_1 c12 (by decide) (by decide) (by decide) (by decide) ?_
    refine g_aload_n 61 C dX7_perform_60 rfl rfl rfl ?_
    refine g_iload_n 62 C dX7_perform_61 rfl rfl rfl ?_
    refine g_iload_n 63 C dX7_perform_62 rfl rfl rfl ?_
    refine g_iload 65 C dX7_perform_63 rfl rfl ?_
    obtain ⟨r11, τ9, q10, hF⟩ := sg_bnd2E hF
    refine g_callVi 68 C (w2 := (ww_X7TNL Y ad τ9)) (As := [.int x2, .int x3, .int x4]) (st := []) (n0 := 3) (ci := 9) (q0 := 0) [0, 1, 2, 3, 4, 5, 6, 7, 8, 9, 10, 11, 12, 13, 14] [] [0, 1, 2, 3, 4, 5, 6, 7, 8, 9, 10, 11, 12, 13, 14] (c_X7_lend l hZ (ad := ad) q10) gX7_perform_X7_lend ⟨rfl, by decide +kernel, by decide +kernel, rfl⟩ rfl ⟨Nat.le_of_ble_eq_true rfl, Nat.le_of_ble_eq_true rfl⟩ rfl rfl ⟨rfl, rfl, rfl, by decide, rfl, rfl⟩ rfl rfl (Nat.le_of_ble_eq_true rfl) ⟨Nat.le_refl _, Nat.le_refl _⟩ dX7_perform_65 rfl rfl ?_
    obtain ⟨e1, e2⟩ := sg_pairE hF
    exact g_iret C hr rfl hQ hsz dX7_perform_68 e1.symm (by rw [e2])
  rcases sg_iteE hF with ⟨c16, hF⟩ | ⟨c16, hF⟩
  · refine g_tsin (off := 68) C 69 3 dX7_perform_1 c16 (by decide) (by decide) (by decide) (by decide) ?_
    refine g_aload_n 70 C dX7_perform_69 rfl rfl rfl ?_
    refine g_iload_n 71 C dX7_perform_70 rfl rfl rfl ?_
    obtain ⟨r15, τ13, q14, hF⟩ := sg_bnd2E hF
    refine g_callVi 74 C (w2 := (ww_X7TNL Y ad τ13)) (As := [.int x2]) (st := []) (n0 := 1) (ci := 9) (q0 := 0) [0, 1, 2, 3, 4, 5, 6, 7, 8, 9, 10, 11, 12, 13, 14] [] [0, 1, 2, 3, 4, 5, 6, 7, 8, 9, 10, 11, 12, 13, 14] (c_X7_takeBack l hZ (ad := ad) q14) gX7_perform_X7_takeBack ⟨rfl, by decide +kernel, by decide +kernel, rfl⟩ rfl ⟨Nat.le_of_ble_eq_true rfl, Nat.le_of_ble_eq_true rfl⟩ rfl rfl ⟨rfl, rfl, rfl, by decide, rfl, rfl⟩ rfl rfl (Nat.le_of_ble_eq_true rfl) ⟨Nat.le_refl _, Nat.le_refl _⟩ dX7_perform_71 rfl rfl ?_
    obtain ⟨e1, e2⟩ := sg_pairE hF
    exact g_iret C hr rfl hQ hsz dX7_perform_74 e1.symm (by rw [e2])
  rcases sg_iteE hF with ⟨c20, hF⟩ | ⟨c20, hF⟩
  · refine g_tsin (off := 74) C 75 4 dX7_perform_1 c20 (by decide) (by decide) (by decide) (by decide) ?_
    refine g_aload_n 76 C dX7_perform_75 rfl rfl rfl ?_
    refine g_iload_n 77 C dX7_perform_76 rfl rfl rfl ?_
    refine g_iload_n 78 C dX7_perform_77 rfl rfl rfl ?_
    obtain ⟨r19, τ17, q18, hF⟩ := sg_bnd2E hF
    refine g_callVi 81 C (w2 := (ww_X7TNL Y ad τ17)) (As := [.int x2, .int x3]) (st := []) (n0 := 2) (ci := 9) (q0 := 0) [0, 1, 2, 3, 4, 5, 6, 7, 8, 9, 10, 11, 12, 13, 14] [] [0, 1, 2, 3, 4, 5, 6, 7, 8, 9, 10, 11, 12, 13, 14] (c_X7_pour l hZ (ad := ad) q18) gX7_perform_X7_pour ⟨rfl, by decide +kernel, by decide +kernel, rfl⟩ rfl ⟨Nat.le_of_ble_eq_true rfl, Nat.le_of_ble_eq_true rfl⟩ rfl rfl ⟨rfl, rfl, rfl, by decide, rfl, rfl⟩ rfl rfl (Nat.le_of_ble_eq_true rfl) ⟨Nat.le_refl _, Nat.le_refl _⟩ dX7_perform_78 rfl rfl ?_
    obtain ⟨e1, e2⟩ := sg_pairE hF
    exact g_iret C hr rfl hQ hsz dX7_perform_81 e1.symm (by rw [e2])
  rcases sg_iteE hF with ⟨c24, hF⟩ | ⟨c24, hF⟩
  · refine g_tsin (off := 81) C 82 5 dX7_perform_1 c24 (by decide) (by decide) (by decide) (by decide) ?_
    refine g_aload_n 83 C dX7_perform_82 rfl rfl rfl ?_
    refine g_iload_n 84 C dX7_perform_83 rfl rfl rfl ?_
    refine g_iload_n 85 C dX7_perform_84 rfl rfl rfl ?_
    obtain ⟨r23, τ21, q22, hF⟩ := sg_bnd2E hF
    refine g_callVi 88 C (w2 := (ww_X7TNL Y ad τ21)) (As := [.int x2, .int x3]) (st := []) (n0 := 2) (ci := 9) (q0 := 0) [0, 1, 2, 3, 4, 5, 6, 7, 8, 9, 10, 11, 12, 13, 14] [] [0, 1, 2, 3, 4, 5, 6, 7, 8, 9, 10, 11, 12, 13, 14] (c_X7_pledge l hZ (ad := ad) q22) gX7_perform_X7_pledge ⟨rfl, by decide +kernel, by decide +kernel, rfl⟩ rfl ⟨Nat.le_of_ble_eq_true rfl, Nat.le_of_ble_eq_true rfl⟩ rfl rfl ⟨rfl, rfl, rfl, by decide, rfl, rfl⟩ rfl rfl (Nat.le_of_ble_eq_true rfl) ⟨Nat.le_refl _, Nat.le_refl _⟩ dX7_perform_85 rfl rfl ?_
    obtain ⟨e1, e2⟩ := sg_pairE hF
    exact g_iret C hr rfl hQ hsz dX7_perform_88 e1.symm (by rw [e2])
  rcases sg_iteE hF with ⟨c28, hF⟩ | ⟨c28, hF⟩
  · refine g_tsin (off := 88) C 89 6 dX7_perform_1 c28 (by decide) (by decide) (by decide) (by decide) ?_
    refine g_aload_n 90 C dX7_perform_89 rfl rfl rfl ?_
    refine g_iload_n 91 C dX7_perform_90 rfl rfl rfl ?_
    obtain ⟨r27, τ25, q26, hF⟩ := sg_bnd2E hF
    refine g_callVi 94 C (w2 := (ww_X7TNL Y ad τ25)) (As := [.int x2]) (st := []) (n0 := 1) (ci := 9) (q0 := 0) [0, 1, 2, 3, 4, 5, 6, 7, 8, 9, 10, 11, 12, 13, 14] [] [0, 1, 2, 3, 4, 5, 6, 7, 8, 9, 10, 11, 12, 13, 14] (c_X7_sell l hZ (ad := ad) q26) gX7_perform_X7_sell ⟨rfl, by decide +kernel, by decide +kernel, rfl⟩ rfl ⟨Nat.le_of_ble_eq_true rfl, Nat.le_of_ble_eq_true rfl⟩ rfl rfl ⟨rfl, rfl, rfl, by decide, rfl, rfl⟩ rfl rfl (Nat.le_of_ble_eq_true rfl) ⟨Nat.le_refl _, Nat.le_refl _⟩ dX7_perform_91 rfl rfl ?_
    obtain ⟨e1, e2⟩ := sg_pairE hF
    exact g_iret C hr rfl hQ hsz dX7_perform_94 e1.symm (by rw [e2])
  have nc4 : Int32.toInt x1 ≠ 0 := sg_neT c4 (by decide)
  have nc8 : Int32.toInt x1 ≠ 1 := sg_neT c8 (by decide)
  have nc12 : Int32.toInt x1 ≠ 2 := sg_neT c12 (by decide)
  have nc16 : Int32.toInt x1 ≠ 3 := sg_neT c16 (by decide)
  have nc20 : Int32.toInt x1 ≠ 4 := sg_neT c20 (by decide)
  have nc24 : Int32.toInt x1 ≠ 5 := sg_neT c24 (by decide)
  have nc28 : Int32.toInt x1 ≠ 6 := sg_neT c28 (by decide)
  refine g_tsout C 95 dX7_perform_1 (by omega) (by decide) ?_
  refine g_aload_n 96 C dX7_perform_95 rfl rfl rfl ?_
  refine g_get 99 C (own := RX7) (C1 := RX7) (T := TX7) 0 0 (.ref (ad 1)) kiX7_perform_X7 kfX7_perform_10 rfl dX7_perform_96 rfl rfl rfl (by decide) rfl ?_
  obtain ⟨r31, τ29, q30, hF⟩ := sg_bnd2E hF
  obtain ⟨σ32, eσ32, hF⟩ := sg_letE hF
  refine g_callVi 102 C (w2 := (ww_X7TNL Y ad σ32)) (As := []) (st := []) (n0 := 0) (ci := 5) (q0 := 1) [1, 2, 3, 4, 5, 6, 7, 8, 9, 10, 11, 12, 13] [0, 14] [0, 2, 3, 4, 5, 6, 7, 8, 9, 10, 11, 12, 13, 14, 1] (c_X3_pass l hZ (ad := (sg_e1 1 ad)) q30) gX7_perform_X3_pass ⟨rfl, by decide +kernel, by decide +kernel, rfl⟩ rfl ⟨Nat.le_of_ble_eq_true rfl, Nat.le_of_ble_eq_true rfl⟩ rfl rfl (by subst eσ32; exact ⟨rfl, rfl, rfl, by decide, rfl, rfl⟩) rfl rfl (Nat.le_of_ble_eq_true rfl) ⟨Nat.le_refl _, Nat.le_refl _⟩ dX7_perform_99 rfl rfl ?_
  obtain ⟨e1, e2⟩ := sg_pairE hF
  exact g_iret C hr rfl hQ hsz dX7_perform_102 e1.symm (by rw [e2])
