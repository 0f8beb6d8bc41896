theorem kiX8_would_X8 : ∀ w ∈ u_ws RX8 TX8 27, w ∈ wsX8_would := by decide +kernel
theorem kfX8_would_23 : Cond.fieldLink RX8 23 "WeatherMinistryModel" "kept" "[I" ∈ wsX8_would := by decide +kernel
theorem kfX8_would_13 : Cond.fieldLink RX8 13 "WeatherMinistryModel" "v" "[I" ∈ wsX8_would := by decide +kernel
def f_X8_would_L48 (x1 : Int32) (x2 : Int32) (x3 : Int32) : Nat → Int32 → Int32 → sg_S → Option (Int32 × sg_S)
  | 0, _, _, _ => none
  | nz + 1, z4, z5, σz => (if z5 < x2 then sg_bnd2 (f_X8_months  σz) (fun r19 τ17 => sg_let (z4 + r19) (fun y20 => f_X8_would_L48 x1 x2 x3 nz y20 (z5 + 1) τ17)) else sg_bnd (f_X8_at x1 x3) (fun r10 => sg_grd (sg_in r10 79) (sg_let (σz 1 r10.toNatClampNeg) (fun y13 => sg_bnd (f_X8_lays  (sg_e2 1 1 4 σz)) (fun τ14 => sg_let (sg_m2 1 1 4 1 σz τ14) (fun σ16 => some (y13, σ16)))))))
def f_X8_would (x1 : Int32) (x2 : Int32) (x3 : Int32) (σ : sg_S) : Option (Int32 × sg_S) := sg_bnd (f_X8_isTown x1) (fun r1 => (if r1 = 0 then some ((-1), σ) else sg_bnd (f_X8_isIn x2 0 24) (fun r3 => (if r3 = 0 then some ((-2), σ) else sg_bnd (f_X8_isIn x3 0 3) (fun r5 => (if r5 = 0 then some ((-2), σ) else sg_bnd (f_X8_lays  (sg_e2 1 4 1 σ)) (fun τ7 => sg_let (sg_m2 4 1 1 1 σ τ7) (fun σ9 => f_X8_would_L48 x1 x2 x3 1000 0 0 σ9))))))))
set_option maxHeartbeats 4000000 in
set_option maxRecDepth 100000 in
theorem c_X8_would (l : Launch) {D : va_G} {Y : Nat → ClassId} {Z : (Nat → Prop) → State → Heap → Prop} (hZ : sg_Zok Z) {ad : Nat → Nat} {σ : sg_S} {σ' : sg_S} {x1 x2 x3 : Int32} {r : Int32} (hF : f_X8_would x1 x2 x3 σ = some (r, σ')) : sg_MI l yX8_would wsX8_would 4 102 D Y Z [.ref (ad 0), .int x1, .int x2, .int x3] (ww_X8 Y ad σ) r (ww_X8 Y ad σ') := by
  intro sz
  refine sg_enter (own := RX8) (maxL := 6) (ret := (some .int)) (cc := cX8_would) (by decide +kernel) rfl rfl (Nat.le_of_ble_eq_true rfl) hZ ?_
  intro p e s m args below meth c C hr Q hQ hsz
  refine g_lv (lv2 := [(0, .ref (ad 0)), (1, .int x1), (2, .int x2), (3, .int x3)]) [0, 1, 2, 3] rfl ?_
  have K48 : ∀ (nz : Nat), ∀ (z4 : Int32) (z5 : Int32) (σz : sg_S), f_X8_would_L48 x1 x2 x3 nz z4 z5 σz = some (r, σ') → sg_G p l e ({ frames := 4, cells := 0, slots := 0, locals := 102 } : Room) s m args below meth c D (va_A (ww_X8 Y ad σ) s.heap.size) 6 0 0 Q 48 [(0, .ref (ad 0)), (1, .int x1), (2, .int x2), (3, .int x3), (4, .int z4), (5, .int z5)] [] (ww_X8 Y ad σz) := by
    intro nz
    induction nz with
    | zero =>
      intro z4 z5 σz hF
      rw [f_X8_would_L48.eq_1] at hF
      exact nomatch hF
    | succ nz ih =>
      intro z4 z5 σz hF
      rw [f_X8_would_L48.eq_2] at hF
      refine g_iload 50 C dX8_would_48 rfl rfl ?_
      refine g_iload_n 51 C dX8_would_50 rfl rfl rfl ?_
      refine g_icmp_ge 54 69 C dX8_would_51 (by decide) rfl hF (fun hF => ?_) (fun hF => ?_)
      · refine g_aload_n 70 C dX8_would_69 rfl rfl rfl ?_
        refine g_get 73 C (own := RX8) (C1 := RX8) (T := TX8) 0 8 (.ref (ad 1)) kiX8_would_X8 kfX8_would_13 rfl dX8_would_70 rfl rfl rfl (by decide) rfl ?_
        refine g_iload_n 74 C dX8_would_73 rfl rfl rfl ?_
        refine g_iload_n 75 C dX8_would_74 rfl rfl rfl ?_
        obtain ⟨r10, q11, hF⟩ := sg_bndE hF
        refine g_callSi 78 C (w2 := (ww_X8 Y ad σz)) (As := [.int x1, .int x3]) (st := [.ref (ad 1)]) (n0 := 2) [] [0, 1, 2, 3, 4, 5, 6, 7, 8, 9, 10, 11, 12] [0, 1, 2, 3, 4, 5, 6, 7, 8, 9, 10, 11, 12] (c_X8_at l hZ (ad := ad) (σ := σz) q11) gX8_would_X8_at ⟨by decide +kernel, by decide +kernel, rfl⟩ rfl ⟨Nat.le_of_ble_eq_true rfl, Nat.le_of_ble_eq_true rfl⟩ ⟨rfl, rfl, rfl, by decide, rfl, rfl⟩ rfl rfl (Nat.le_of_ble_eq_true rfl) ⟨Nat.le_refl _, Nat.le_refl _⟩ dX8_would_75 rfl rfl ?_
        obtain ⟨h12, hF⟩ := sg_grdE hF
        refine g_ialdc 79 C 1 (r10.toNatClampNeg) (σz 1 r10.toNatClampNeg) dX8_would_78 rfl rfl rfl h12 rfl ?_
        obtain ⟨y13, ey13, hF⟩ := sg_letE hF
        refine g_top ey13 ?_
        refine g_istore 81 C [(5, .int y13), (0, .ref (ad 0)), (1, .int x1), (2, .int x2), (3, .int x3), (4, .int z4)] dX8_would_79 rfl (by decide) rfl ?_
        refine g_aload_n 82 C dX8_would_81 rfl rfl rfl ?_
        refine g_get 85 C (own := RX8) (C1 := RX8) (T := TX8) 0 8 (.ref (ad 1)) kiX8_would_X8 kfX8_would_13 rfl dX8_would_82 rfl rfl rfl (by decide) rfl ?_
        refine g_aload_n 86 C dX8_would_85 rfl rfl rfl ?_
        refine g_get 89 C (own := RX8) (C1 := RX8) (T := TX8) 0 11 (.ref (ad 4)) kiX8_would_X8 kfX8_would_23 rfl dX8_would_86 rfl rfl rfl (by decide) rfl ?_
        obtain ⟨τ14, q15, hF⟩ := sg_bndE hF
        obtain ⟨σ16, eσ16, hF⟩ := sg_letE hF
        refine g_callSv 92 C (w2 := (ww_X8 Y ad σ16)) (As := [.ref (ad 1), .ref (ad 4)]) (st := []) (n0 := 2) [1, 4] [0, 2, 3, 5, 6, 7, 8, 9, 10, 11, 12] [0, 11, 1, 2, 12, 3, 4, 5, 6, 7, 8, 9, 10] (c_X8_lays l hZ (ad := (sg_e2 1 1 4 ad)) q15) gX8_would_X8_lays ⟨by decide +kernel, by decide +kernel, rfl⟩ rfl ⟨Nat.le_of_ble_eq_true rfl, Nat.le_of_ble_eq_true rfl⟩ (by subst eσ16; exact ⟨rfl, rfl, rfl, by decide, rfl, rfl⟩) rfl rfl (Nat.le_of_ble_eq_true rfl) ⟨Nat.le_refl _, Nat.le_refl _⟩ dX8_would_89 rfl rfl ?_
        refine g_iload 94 C dX8_would_92 rfl rfl ?_
        obtain ⟨e1, e2⟩ := sg_pairE hF
        exact g_iret C hr rfl hQ hsz dX8_would_94 e1.symm (by rw [e2])
      · refine g_iload 56 C dX8_would_54 rfl rfl ?_
        refine g_aload_n 57 C dX8_would_56 rfl rfl rfl ?_
        obtain ⟨r19, τ17, q18, hF⟩ := sg_bnd2E hF
        refine g_callVi 60 C (w2 := (ww_X8 Y ad τ17)) (As := []) (st := [.int z4]) (n0 := 0) (ci := 9) (q0 := 0) [0, 1, 2, 3, 4, 5, 6, 7, 8, 9, 10, 11, 12] [] [0, 1, 2, 3, 4, 5, 6, 7, 8, 9, 10, 11, 12] (c_X8_months l hZ (ad := ad) q18) gX8_would_X8_months ⟨rfl, by decide +kernel, by decide +kernel, rfl⟩ rfl ⟨Nat.le_of_ble_eq_true rfl, Nat.le_of_ble_eq_true rfl⟩ rfl rfl ⟨rfl, rfl, rfl, by decide, rfl, rfl⟩ rfl rfl (Nat.le_of_ble_eq_true rfl) ⟨Nat.le_refl _, Nat.le_refl _⟩ dX8_would_57 rfl rfl ?_
        refine g_iadd 61 C dX8_would_60 rfl ?_
        obtain ⟨y20, ey20, hF⟩ := sg_letE hF
        refine g_top ey20 ?_
        refine g_istore 63 C [(4, .int y20), (0, .ref (ad 0)), (1, .int x1), (2, .int x2), (3, .int x3), (5, .int z5)] dX8_would_61 rfl (by decide) rfl ?_
        refine g_iinc 66 C 5 (z5 + 1) [(5, .int (z5 + 1)), (4, .int y20), (0, .ref (ad 0)), (1, .int x1), (2, .int x2), (3, .int x3)] dX8_would_63 rfl rfl rfl (by decide) rfl ?_
        refine g_goto 48 C dX8_would_66 (by decide) ?_
        refine g_lv (lv2 := [(0, .ref (ad 0)), (1, .int x1), (2, .int x2), (3, .int x3), (4, .int y20), (5, .int (z5 + 1))]) [2, 3, 4, 5, 1, 0] rfl ?_
        exact ih y20 (z5 + 1) τ17 hF
  rw [f_X8_would] at hF
  refine g_iload_n 1 C dX8_would_0 rfl rfl rfl ?_
  obtain ⟨r1, q2, hF⟩ := sg_bndE hF
  refine g_callSi 4 C (w2 := (ww_X8 Y ad σ)) (As := [.int x1]) (st := []) (n0 := 1) [] [0, 1, 2, 3, 4, 5, 6, 7, 8, 9, 10, 11, 12] [0, 1, 2, 3, 4, 5, 6, 7, 8, 9, 10, 11, 12] (c_X8_isTown l hZ (ad := ad) (σ := σ) q2) gX8_would_X8_isTown ⟨by decide +kernel, by decide +kernel, rfl⟩ rfl ⟨Nat.le_of_ble_eq_true rfl, Nat.le_of_ble_eq_true rfl⟩ ⟨rfl, rfl, rfl, by decide, rfl, rfl⟩ rfl rfl (Nat.le_of_ble_eq_true rfl) ⟨Nat.le_refl _, Nat.le_refl _⟩ dX8_would_1 rfl rfl ?_
  refine g_if_ne 7 9 C dX8_would_4 (by decide) rfl hF (fun hF => ?_) (fun hF => ?_)
  · refine g_iload_n 10 C dX8_would_9 rfl rfl rfl ?_
    refine g_iconst 11 C 0 dX8_would_10 rfl (by decide) ?_
    refine g_bipush 13 C 24 dX8_would_11 rfl (by decide) ?_
    obtain ⟨r3, q4, hF⟩ := sg_bndE hF
    refine g_callSi 16 C (w2 := (ww_X8 Y ad σ)) (As := [.int x2, .int 0, .int 24]) (st := []) (n0 := 3) [] [0, 1, 2, 3, 4, 5, 6, 7, 8, 9, 10, 11, 12] [0, 1, 2, 3, 4, 5, 6, 7, 8, 9, 10, 11, 12] (c_X8_isIn l hZ (ad := ad) (σ := σ) q4) gX8_would_X8_isIn ⟨by decide +kernel, by decide +kernel, rfl⟩ rfl ⟨Nat.le_of_ble_eq_true rfl, Nat.le_of_ble_eq_true rfl⟩ ⟨rfl, rfl, rfl, by decide, rfl, rfl⟩ rfl rfl (Nat.le_of_ble_eq_true rfl) ⟨Nat.le_refl _, Nat.le_refl _⟩ dX8_would_13 rfl rfl ?_
    refine g_if_eq 19 28 C dX8_would_16 (by decide) rfl hF (fun hF => ?_) (fun hF => ?_)
    · refine g_bipush 30 C (-2) dX8_would_28 rfl (by decide) ?_
      obtain ⟨e1, e2⟩ := sg_pairE hF
      exact g_iret C hr rfl hQ hsz dX8_would_30 e1.symm (by rw [e2])
    · refine g_iload_n 20 C dX8_would_19 rfl rfl rfl ?_
      refine g_iconst 21 C 0 dX8_would_20 rfl (by decide) ?_
      refine g_iconst 22 C 3 dX8_would_21 rfl (by decide) ?_
      obtain ⟨r5, q6, hF⟩ := sg_bndE hF
      refine g_callSi 25 C (w2 := (ww_X8 Y ad σ)) (As := [.int x3, .int 0, .int 3]) (st := []) (n0 := 3) [] [0, 1, 2, 3, 4, 5, 6, 7, 8, 9, 10, 11, 12] [0, 1, 2, 3, 4, 5, 6, 7, 8, 9, 10, 11, 12] (c_X8_isIn l hZ (ad := ad) (σ := σ) q6) gX8_would_X8_isIn ⟨by decide +kernel, by decide +kernel, rfl⟩ rfl ⟨Nat.le_of_ble_eq_true rfl, Nat.le_of_ble_eq_true rfl⟩ ⟨rfl, rfl, rfl, by decide, rfl, rfl⟩ rfl rfl (Nat.le_of_ble_eq_true rfl) ⟨Nat.le_refl _, Nat.le_refl _⟩ dX8_would_22 rfl rfl ?_
      refine g_if_ne 28 31 C dX8_would_25 (by decide) rfl hF (fun hF => ?_) (fun hF => ?_)
      · refine g_aload_n 32 C dX8_would_31 rfl rfl rfl ?_
        refine g_get 35 C (own := RX8) (C1 := RX8) (T := TX8) 0 11 (.ref (ad 4)) kiX8_would_X8 kfX8_would_23 rfl dX8_would_32 rfl rfl rfl (by decide) rfl ?_
        refine g_aload_n 36 C dX8_would_35 rfl rfl rfl ?_
        refine g_get 39 C (own := RX8) (C1 := RX8) (T := TX8) 0 8 (.ref (ad 1)) kiX8_would_X8 kfX8_would_13 rfl dX8_would_36 rfl rfl rfl (by decide) rfl ?_
        obtain ⟨τ7, q8, hF⟩ := sg_bndE hF
        obtain ⟨σ9, eσ9, hF⟩ := sg_letE hF
        refine g_callSv 42 C (w2 := (ww_X8 Y ad σ9)) (As := [.ref (ad 4), .ref (ad 1)]) (st := []) (n0 := 2) [4, 1] [0, 2, 3, 5, 6, 7, 8, 9, 10, 11, 12] [0, 12, 1, 2, 11, 3, 4, 5, 6, 7, 8, 9, 10] (c_X8_lays l hZ (ad := (sg_e2 1 4 1 ad)) q8) gX8_would_X8_lays ⟨by decide +kernel, by decide +kernel, rfl⟩ rfl ⟨Nat.le_of_ble_eq_true rfl, Nat.le_of_ble_eq_true rfl⟩ (by subst eσ9; exact ⟨rfl, rfl, rfl, by decide, rfl, rfl⟩) rfl rfl (Nat.le_of_ble_eq_true rfl) ⟨Nat.le_refl _, Nat.le_refl _⟩ dX8_would_39 rfl rfl ?_
        refine g_iconst 43 C 0 dX8_would_42 rfl (by decide) ?_
        refine g_istore 45 C [(4, .int 0), (0, .ref (ad 0)), (1, .int x1), (2, .int x2), (3, .int x3)] dX8_would_43 rfl (by decide) rfl ?_
        refine g_iconst 46 C 0 dX8_would_45 rfl (by decide) ?_
        refine g_istore 48 C [(5, .int 0), (4, .int 0), (0, .ref (ad 0)), (1, .int x1), (2, .int x2), (3, .int x3)] dX8_would_46 rfl (by decide) rfl ?_
        refine g_lv (lv2 := [(0, .ref (ad 0)), (1, .int x1), (2, .int x2), (3, .int x3), (4, .int 0), (5, .int 0)]) [2, 3, 4, 5, 1, 0] rfl ?_
        exact K48  1000 0 0 σ9 hF
      · refine g_bipush 30 C (-2) dX8_would_28 rfl (by decide) ?_
        obtain ⟨e1, e2⟩ := sg_pairE hF
        exact g_iret C hr rfl hQ hsz dX8_would_30 e1.symm (by rw [e2])
  · refine g_iconst 8 C (-1) dX8_would_7 rfl (by decide) ?_
    obtain ⟨e1, e2⟩ := sg_pairE hF
    exact g_iret C hr rfl hQ hsz dX8_would_8 e1.symm (by rw [e2])
theorem kiX8_wouldPay_X8 : ∀ w ∈ u_ws RX8 TX8 27, w ∈ wsX8_wouldPay := by decide +kernel
theorem kfX8_wouldPay_23 : Cond.fieldLink RX8 23 "WeatherMinistryModel" "kept" "[I" ∈ wsX8_wouldPay := by decide +kernel
theorem kfX8_wouldPay_13 : Cond.fieldLink RX8 13 "WeatherMinistryModel" "v" "[I" ∈ wsX8_wouldPay := by decide +kernel
theorem kfX8_wouldPay_139 : Cond.fieldLink RX8 139 "WeatherMinistryModel" "isPaid" "Z" ∈ wsX8_wouldPay := by decide +kernel
def f_X8_wouldPay_L26 (x1 : Int32) (x2 : Int32) (x3 : Int32) : Nat → Int32 → Int32 → sg_S → Option (Int32 × sg_S)
  | 0, _, _, _ => none
  | nz + 1, z5, z6, σz => (if z6 < x3 then sg_bnd2 (f_X8_months  σz) (fun r13 τ11 => sg_let (z5 + r13) (fun y14 => f_X8_wouldPay_L26 x1 x2 x3 nz y14 (z6 + 1) τ11)) else sg_bnd (f_X8_lays  (sg_e2 1 1 4 σz)) (fun τ7 => sg_let (sg_m2 1 1 4 1 σz τ7) (fun σ9 => sg_grd (sg_01 (σ9 0 15)) (some (σ9 0 15, σ9)))))
def f_X8_wouldPay (x1 : Int32) (x2 : Int32) (x3 : Int32) (σ : sg_S) : Option (Int32 × sg_S) := sg_bnd (f_X8_lays  (sg_e2 1 4 1 σ)) (fun τ1 => sg_let (sg_m2 4 1 1 1 σ τ1) (fun σ3 => sg_bnd2 (f_X8_credits x1 x2 x3 σ3) (fun r6 τ4 => f_X8_wouldPay_L26 x1 x2 x3 1000 0 0 τ4)))
set_option maxHeartbeats 4000000 in
set_option maxRecDepth 100000 in
theorem c_X8_wouldPay (l : Launch) {D : va_G} {Y : Nat → ClassId} {Z : (Nat → Prop) → State → Heap → Prop} (hZ : sg_Zok Z) {ad : Nat → Nat} {σ : sg_S} {σ' : sg_S} {x1 x2 x3 : Int32} {r : Int32} (hF : f_X8_wouldPay x1 x2 x3 σ = some (r, σ')) : sg_MI l yX8_wouldPay wsX8_wouldPay 4 102 D Y Z [.ref (ad 0), .int x1, .int x2, .int x3] (ww_X8 Y ad σ) r (ww_X8 Y ad σ') := by
  intro sz
  refine sg_enter (own := RX8) (maxL := 7) (ret := (some .boolean)) (cc := cX8_wouldPay) (by decide +kernel) rfl rfl (Nat.le_of_ble_eq_true rfl) hZ ?_
  intro p e s m args below meth c C hr Q hQ hsz
  refine g_lv (lv2 := [(0, .ref (ad 0)), (1, .int x1), (2, .int x2), (3, .int x3)]) [0, 1, 2, 3] rfl ?_
  have K26 : ∀ (nz : Nat), ∀ (z5 : Int32) (z6 : Int32) (σz : sg_S), f_X8_wouldPay_L26 x1 x2 x3 nz z5 z6 σz = some (r, σ') → sg_G p l e ({ frames := 4, cells := 0, slots := 0, locals := 102 } : Room) s m args below meth c D (va_A (ww_X8 Y ad σ) s.heap.size) 7 0 0 Q 26 [(0, .ref (ad 0)), (3, .int x3), (5, .int z5), (6, .int z6)] [] (ww_X8 Y ad σz) := by
    intro nz
    induction nz with
    | zero =>
      intro z5 z6 σz hF
      rw [f_X8_wouldPay_L26.eq_1] at hF
      exact nomatch hF
    | succ nz ih =>
      intro z5 z6 σz hF
      rw [f_X8_wouldPay_L26.eq_2] at hF
      refine g_iload 28 C dX8_wouldPay_26 rfl rfl ?_
      refine g_iload_n 29 C dX8_wouldPay_28 rfl rfl rfl ?_
      refine g_icmp_ge 32 47 C dX8_wouldPay_29 (by decide) rfl hF (fun hF => ?_) (fun hF => ?_)
      · refine g_aload_n 48 C dX8_wouldPay_47 rfl rfl rfl ?_
        refine g_get 51 C (own := RX8) (C1 := RX8) (T := TX8) 0 8 (.ref (ad 1)) kiX8_wouldPay_X8 kfX8_wouldPay_13 rfl dX8_wouldPay_48 rfl rfl rfl (by decide) rfl ?_
        refine g_aload_n 52 C dX8_wouldPay_51 rfl rfl rfl ?_
        refine g_get 55 C (own := RX8) (C1 := RX8) (T := TX8) 0 11 (.ref (ad 4)) kiX8_wouldPay_X8 kfX8_wouldPay_23 rfl dX8_wouldPay_52 rfl rfl rfl (by decide) rfl ?_
        obtain ⟨τ7, q8, hF⟩ := sg_bndE hF
        obtain ⟨σ9, eσ9, hF⟩ := sg_letE hF
        refine g_callSv 58 C (w2 := (ww_X8 Y ad σ9)) (As := [.ref (ad 1), .ref (ad 4)]) (st := []) (n0 := 2) [1, 4] [0, 2, 3, 5, 6, 7, 8, 9, 10, 11, 12] [0, 11, 1, 2, 12, 3, 4, 5, 6, 7, 8, 9, 10] (c_X8_lays l hZ (ad := (sg_e2 1 1 4 ad)) q8) gX8_wouldPay_X8_lays ⟨by decide +kernel, by decide +kernel, rfl⟩ rfl ⟨Nat.le_of_ble_eq_true rfl, Nat.le_of_ble_eq_true rfl⟩ (by subst eσ9; exact ⟨rfl, rfl, rfl, by decide, rfl, rfl⟩) rfl rfl (Nat.le_of_ble_eq_true rfl) ⟨Nat.le_refl _, Nat.le_refl _⟩ dX8_wouldPay_55 rfl rfl ?_
        refine g_aload_n 59 C dX8_wouldPay_58 rfl rfl rfl ?_
        refine g_get 62 C (own := RX8) (C1 := RX8) (T := TX8) 0 15 (.int (σ9 0 15)) kiX8_wouldPay_X8 kfX8_wouldPay_139 rfl dX8_wouldPay_59 rfl rfl rfl (by decide) rfl ?_
        obtain ⟨h10, hF⟩ := sg_grdE hF
        obtain ⟨e1, e2⟩ := sg_pairE hF
        exact g_iret C hr (sg_01n h10).1 hQ hsz dX8_wouldPay_62 e1.symm (by rw [e2])
      · refine g_iload 34 C dX8_wouldPay_32 rfl rfl ?_
        refine g_aload_n 35 C dX8_wouldPay_34 rfl rfl rfl ?_
        obtain ⟨r13, τ11, q12, hF⟩ := sg_bnd2E hF
        refine g_callVi 38 C (w2 := (ww_X8 Y ad τ11)) (As := []) (st := [.int z5]) (n0 := 0) (ci := 9) (q0 := 0) [0, 1, 2, 3, 4, 5, 6, 7, 8, 9, 10, 11, 12] [] [0, 1, 2, 3, 4, 5, 6, 7, 8, 9, 10, 11, 12] (c_X8_months l hZ (ad := ad) q12) gX8_wouldPay_X8_months ⟨rfl, by decide +kernel, by decide +kernel, rfl⟩ rfl ⟨Nat.le_of_ble_eq_true rfl, Nat.le_of_ble_eq_true rfl⟩ rfl rfl ⟨rfl, rfl, rfl, by decide, rfl, rfl⟩ rfl rfl (Nat.le_of_ble_eq_true rfl) ⟨Nat.le_refl _, Nat.le_refl _⟩ dX8_wouldPay_35 rfl rfl ?_
        refine g_iadd 39 C dX8_wouldPay_38 rfl ?_
        obtain ⟨y14, ey14, hF⟩ := sg_letE hF
        refine g_top ey14 ?_
        refine g_istore 41 C [(5, .int y14), (0, .ref (ad 0)), (3, .int x3), (6, .int z6)] dX8_wouldPay_39 rfl (by decide) rfl ?_
        refine g_iinc 44 C 3 (z6 + 1) [(6, .int (z6 + 1)), (5, .int y14), (0, .ref (ad 0)), (3, .int x3)] dX8_wouldPay_41 rfl rfl rfl (by decide) rfl ?_
        refine g_goto 26 C dX8_wouldPay_44 (by decide) ?_
        refine g_lv (lv2 := [(0, .ref (ad 0)), (3, .int x3), (5, .int y14), (6, .int (z6 + 1))]) [2, 3, 1, 0] rfl ?_
        exact ih y14 (z6 + 1) τ11 hF
  rw [f_X8_wouldPay] at hF
  refine g_aload_n 1 C dX8_wouldPay_0 rfl rfl rfl ?_
  refine g_get 4 C (own := RX8) (C1 := RX8) (T := TX8) 0 11 (.ref (ad 4)) kiX8_wouldPay_X8 kfX8_wouldPay_23 rfl dX8_wouldPay_1 rfl rfl rfl (by decide) rfl ?_
  refine g_aload_n 5 C dX8_wouldPay_4 rfl rfl rfl ?_
  refine g_get 8 C (own := RX8) (C1 := RX8) (T := TX8) 0 8 (.ref (ad 1)) kiX8_wouldPay_X8 kfX8_wouldPay_13 rfl dX8_wouldPay_5 rfl rfl rfl (by decide) rfl ?_
  obtain ⟨τ1, q2, hF⟩ := sg_bndE hF
  obtain ⟨σ3, eσ3, hF⟩ := sg_letE hF
  refine g_callSv 11 C (w2 := (ww_X8 Y ad σ3)) (As := [.ref (ad 4), .ref (ad 1)]) (st := []) (n0 := 2) [4, 1] [0, 2, 3, 5, 6, 7, 8, 9, 10, 11, 12] [0, 12, 1, 2, 11, 3, 4, 5, 6, 7, 8, 9, 10] (c_X8_lays l hZ (ad := (sg_e2 1 4 1 ad)) q2) gX8_wouldPay_X8_lays ⟨by decide +kernel, by decide +kernel, rfl⟩ rfl ⟨Nat.le_of_ble_eq_true rfl, Nat.le_of_ble_eq_true rfl⟩ (by subst eσ3; exact ⟨rfl, rfl, rfl, by decide, rfl, rfl⟩) rfl rfl (Nat.le_of_ble_eq_true rfl) ⟨Nat.le_refl _, Nat.le_refl _⟩ dX8_wouldPay_8 rfl rfl ?_
  refine g_aload_n 12 C dX8_wouldPay_11 rfl rfl rfl ?_
  refine g_iload_n 13 C dX8_wouldPay_12 rfl rfl rfl ?_
  refine g_iload_n 14 C dX8_wouldPay_13 rfl rfl rfl ?_
  refine g_iload_n 15 C dX8_wouldPay_14 rfl rfl rfl ?_
  obtain ⟨r6, τ4, q5, hF⟩ := sg_bnd2E hF
  refine g_callVi 18 C (w2 := (ww_X8 Y ad τ4)) (As := [.int x1, .int x2, .int x3]) (st := []) (n0 := 3) (ci := 9) (q0 := 0) [0, 1, 2, 3, 4, 5, 6, 7, 8, 9, 10, 11, 12] [] [0, 1, 2, 3, 4, 5, 6, 7, 8, 9, 10, 11, 12] (c_X8_credits l hZ (ad := ad) q5) gX8_wouldPay_X8_credits ⟨rfl, by decide +kernel, by decide +kernel, rfl⟩ rfl ⟨Nat.le_of_ble_eq_true rfl, Nat.le_of_ble_eq_true rfl⟩ rfl rfl ⟨rfl, rfl, rfl, by decide, rfl, rfl⟩ rfl rfl (Nat.le_of_ble_eq_true rfl) ⟨Nat.le_refl _, Nat.le_refl _⟩ dX8_wouldPay_15 rfl rfl ?_
  refine g_istore 20 C [(4, .int r6), (0, .ref (ad 0)), (1, .int x1), (2, .int x2), (3, .int x3)] dX8_wouldPay_18 rfl (by decide) rfl ?_
  refine g_iconst 21 C 0 dX8_wouldPay_20 rfl (by decide) ?_
  refine g_istore 23 C [(5, .int 0), (4, .int r6), (0, .ref (ad 0)), (1, .int x1), (2, .int x2), (3, .int x3)] dX8_wouldPay_21 rfl (by decide) rfl ?_
  refine g_iconst 24 C 0 dX8_wouldPay_23 rfl (by decide) ?_
  refine g_istore 26 C [(6, .int 0), (5, .int 0), (4, .int r6), (0, .ref (ad 0)), (1, .int x1), (2, .int x2), (3, .int x3)] dX8_wouldPay_24 rfl (by decide) rfl ?_
  refine g_lv (lv2 := [(0, .ref (ad 0)), (3, .int x3), (5, .int 0), (6, .int 0)]) [3, 6, 1, 0] rfl ?_
  exact K26  1000 0 0 τ4 hF
theorem kiX8_most_X8 : ∀ w ∈ u_ws RX8 TX8 27, w ∈ wsX8_most := by decide +kernel
theorem kfX8_most_13 : Cond.fieldLink RX8 13 "WeatherMinistryModel" "v" "[I" ∈ wsX8_most := by decide +kernel
def f_X8_most_L75 (x1 : Int32) (x2 : Int32) : Nat → Int32 → sg_S → Option (Int32 × sg_S)
  | 0, _, _ => none
  | nz + 1, z3, σz => (if 0 < z3 then sg_bnd2 (f_X8_wouldPay x1 z3 x2 σz) (fun r14 τ12 => (if r14 = 0 then f_X8_most_L75 x1 x2 nz (z3 + (-1)) τ12 else some (z3, τ12))) else some (z3, σz))
def f_X8_most (x1 : Int32) (x2 : Int32) (σ : sg_S) : Option (Int32 × sg_S) := sg_bnd (f_X8_isTown x1) (fun r1 => (if r1 = 0 then some ((-1), σ) else sg_bnd (f_X8_isIn x2 1 6) (fun r3 => (if r3 = 0 then some ((-2), σ) else sg_bnd (f_X8_at x1 3) (fun r5 => sg_grd (sg_in r5 79) ((if σ 1 r5.toNatClampNeg ≤ 0 then (if σ 1 1 = 8 then some (0, σ) else sg_bnd (f_X8_at x1 0) (fun r8 => sg_grd (sg_in r8 79) (sg_let (60 - (σ 1 r8.toNatClampNeg)) (fun y11 => (if y11 < 20 then f_X8_most_L75 x1 x2 1000 y11 σ else f_X8_most_L75 x1 x2 1000 20 σ))))) else some (0, σ))))))))
set_option maxHeartbeats 4000000 in
set_option maxRecDepth 100000 in
theorem c_X8_most (l : Launch) {D : va_G} {Y : Nat → ClassId} {Z : (Nat → Prop) → State → Heap → Prop} (hZ : sg_Zok Z) {ad : Nat → Nat} {σ : sg_S} {σ' : sg_S} {x1 x2 : Int32} {r : Int32} (hF : f_X8_most x1 x2 σ = some (r, σ')) : sg_MI l yX8_most wsX8_most 5 128 D Y Z [.ref (ad 0), .int x1, .int x2] (ww_X8 Y ad σ) r (ww_X8 Y ad σ') := by
  intro sz
  refine sg_enter (own := RX8) (maxL := 5) (ret := (some .int)) (cc := cX8_most) (by decide +kernel) rfl rfl (Nat.le_of_ble_eq_true rfl) hZ ?_
  intro p e s m args below meth c C hr Q hQ hsz
  refine g_lv (lv2 := [(0, .ref (ad 0)), (1, .int x1), (2, .int x2)]) [0, 1, 2] rfl ?_
  have K75 : ∀ (nz : Nat), ∀ (z3 : Int32) (σz : sg_S), f_X8_most_L75 x1 x2 nz z3 σz = some (r, σ') → sg_G p l e ({ frames := 5, cells := 0, slots := 0, locals := 128 } : Room) s m args below meth c D (va_A (ww_X8 Y ad σ) s.heap.size) 5 0 0 Q 75 [(0, .ref (ad 0)), (1, .int x1), (2, .int x2), (3, .int z3)] [] (ww_X8 Y ad σz) := by
    intro nz
    induction nz with
    | zero =>
      intro z3 σz hF
      rw [f_X8_most_L75.eq_1] at hF
      exact nomatch hF
    | succ nz ih =>
      intro z3 σz hF
      rw [f_X8_most_L75.eq_2] at hF
      refine g_iload_n 76 C dX8_most_75 rfl rfl rfl ?_
      refine g_if_le 79 95 C dX8_most_76 (by decide) rfl hF (fun hF => ?_) (fun hF => ?_)
      · refine g_iload_n 96 C dX8_most_95 rfl rfl rfl ?_
        obtain ⟨e1, e2⟩ := sg_pairE hF
        exact g_iret C hr rfl hQ hsz dX8_most_96 e1.symm (by rw [e2])
      · refine g_aload_n 80 C dX8_most_79 rfl rfl rfl ?_
        refine g_iload_n 81 C dX8_most_80 rfl rfl rfl ?_
        refine g_iload_n 82 C dX8_most_81 rfl rfl rfl ?_
        refine g_iload_n 83 C dX8_most_82 rfl rfl rfl ?_
        obtain ⟨r14, τ12, q13, hF⟩ := sg_bnd2E hF
        refine g_callVi 86 C (w2 := (ww_X8 Y ad τ12)) (As := [.int x1, .int z3, .int x2]) (st := []) (n0 := 3) (ci := 9) (q0 := 0) [0, 1, 2, 3, 4, 5, 6, 7, 8, 9, 10, 11, 12] [] [0, 1, 2, 3, 4, 5, 6, 7, 8, 9, 10, 11, 12] (c_X8_wouldPay l hZ (ad := ad) q13) gX8_most_X8_wouldPay ⟨rfl, by decide +kernel, by decide +kernel, rfl⟩ rfl ⟨Nat.le_of_ble_eq_true rfl, Nat.le_of_ble_eq_true rfl⟩ rfl rfl ⟨rfl, rfl, rfl, by decide, rfl, rfl⟩ rfl rfl (Nat.le_of_ble_eq_true rfl) ⟨Nat.le_refl _, Nat.le_refl _⟩ dX8_most_83 rfl rfl ?_
        refine g_if_ne 89 95 C dX8_most_86 (by decide) rfl hF (fun hF => ?_) (fun hF => ?_)
        · refine g_iload_n 96 C dX8_most_95 rfl rfl rfl ?_
          obtain ⟨e1, e2⟩ := sg_pairE hF
          exact g_iret C hr rfl hQ hsz dX8_most_96 e1.symm (by rw [e2])
        · refine g_iinc 92 C 3 (z3 + (-1)) [(3, .int (z3 + (-1))), (0, .ref (ad 0)), (1, .int x1), (2, .int x2)] dX8_most_89 rfl rfl rfl (by decide) rfl ?_
          refine g_goto 75 C dX8_most_92 (by decide) ?_
          refine g_lv (lv2 := [(0, .ref (ad 0)), (1, .int x1), (2, .int x2), (3, .int (z3 + (-1)))]) [1, 2, 3, 0] rfl ?_
          exact ih (z3 + (-1)) τ12 hF
  rw [f_X8_most] at hF
  refine g_iload_n 1 C dX8_most_0 rfl rfl rfl ?_
  obtain ⟨r1, q2, hF⟩ := sg_bndE hF
  refine g_callSi 4 C (w2 := (ww_X8 Y ad σ)) (As := [.int x1]) (st := []) (n0 := 1) [] [0, 1, 2, 3, 4, 5, 6, 7, 8, 9, 10, 11, 12] [0, 1, 2, 3, 4, 5, 6, 7, 8, 9, 10, 11, 12] (c_X8_isTown l hZ (ad := ad) (σ := σ) q2) gX8_most_X8_isTown ⟨by decide +kernel, by decide +kernel, rfl⟩ rfl ⟨Nat.le_of_ble_eq_true rfl, Nat.le_of_ble_eq_true rfl⟩ ⟨rfl, rfl, rfl, by decide, rfl, rfl⟩ rfl rfl (Nat.le_of_ble_eq_true rfl) ⟨Nat.le_refl _, Nat.le_refl _⟩ dX8_most_1 rfl rfl ?_
  refine g_if_ne 7 9 C dX8_most_4 (by decide) rfl hF (fun hF => ?_) (fun hF => ?_)
  · refine g_iload_n 10 C dX8_most_9 rfl rfl rfl ?_
    refine g_iconst 11 C 1 dX8_most_10 rfl (by decide) ?_
    refine g_bipush 13 C 6 dX8_most_11 rfl (by decide) ?_
    obtain ⟨r3, q4, hF⟩ := sg_bndE hF
    refine g_callSi 16 C (w2 := (ww_X8 Y ad σ)) (As := [.int x2, .int 1, .int 6]) (st := []) (n0 := 3) [] [0, 1, 2, 3, 4, 5, 6, 7, 8, 9, 10, 11, 12] [0, 1, 2, 3, 4, 5, 6, 7, 8, 9, 10, 11, 12] (c_X8_isIn l hZ (ad := ad) (σ := σ) q4) gX8_most_X8_isIn ⟨by decide +kernel, by decide +kernel, rfl⟩ rfl ⟨Nat.le_of_ble_eq_true rfl, Nat.le_of_ble_eq_true rfl⟩ ⟨rfl, rfl, rfl, by decide, rfl, rfl⟩ rfl rfl (Nat.le_of_ble_eq_true rfl) ⟨Nat.le_refl _, Nat.le_refl _⟩ dX8_most_13 rfl rfl ?_
    refine g_if_ne 19 22 C dX8_most_16 (by decide) rfl hF (fun hF => ?_) (fun hF => ?_)
    · refine g_aload_n 23 C dX8_most_22 rfl rfl rfl ?_
      refine g_get 26 C (own := RX8) (C1 := RX8) (T := TX8) 0 8 (.ref (ad 1)) kiX8_most_X8 kfX8_most_13 rfl dX8_most_23 rfl rfl rfl (by decide) rfl ?_
      refine g_iload_n 27 C dX8_most_26 rfl rfl rfl ?_
      refine g_iconst 28 C 3 dX8_most_27 rfl (by decide) ?_
      obtain ⟨r5, q6, hF⟩ := sg_bndE hF
      refine g_callSi 31 C (w2 := (ww_X8 Y ad σ)) (As := [.int x1, .int 3]) (st := [.ref (ad 1)]) (n0 := 2) [] [0, 1, 2, 3, 4, 5, 6, 7, 8, 9, 10, 11, 12] [0, 1, 2, 3, 4, 5, 6, 7, 8, 9, 10, 11, 12] (c_X8_at l hZ (ad := ad) (σ := σ) q6) gX8_most_X8_at ⟨by decide +kernel, by decide +kernel, rfl⟩ rfl ⟨Nat.le_of_ble_eq_true rfl, Nat.le_of_ble_eq_true rfl⟩ ⟨rfl, rfl, rfl, by decide, rfl, rfl⟩ rfl rfl (Nat.le_of_ble_eq_true rfl) ⟨Nat.le_refl _, Nat.le_refl _⟩ dX8_most_28 rfl rfl ?_
      obtain ⟨h7, hF⟩ := sg_grdE hF
      refine g_ialdc 32 C 1 (r5.toNatClampNeg) (σ 1 r5.toNatClampNeg) dX8_most_31 rfl rfl rfl h7 rfl ?_
      refine g_if_gt 35 46 C dX8_most_32 (by decide) rfl hF (fun hF => ?_) (fun hF => ?_)
      · refine g_iconst 47 C 0 dX8_most_46 rfl (by decide) ?_
        obtain ⟨e1, e2⟩ := sg_pairE hF
        exact g_iret C hr rfl hQ hsz dX8_most_47 e1.symm (by rw [e2])
      · refine g_aload_n 36 C dX8_most_35 rfl rfl rfl ?_
        refine g_get 39 C (own := RX8) (C1 := RX8) (T := TX8) 0 8 (.ref (ad 1)) kiX8_most_X8 kfX8_most_13 rfl dX8_most_36 rfl rfl rfl (by decide) rfl ?_
        refine g_iconst 40 C 1 dX8_most_39 rfl (by decide) ?_
        refine g_ialdc 41 C 1 (1) (σ 1 1) dX8_most_40 rfl rfl (by decide) (by decide) rfl ?_
        refine g_bipush 43 C 8 dX8_most_41 rfl (by decide) ?_
        refine g_icmp_ne 46 48 C dX8_most_43 (by decide) rfl hF (fun hF => ?_) (fun hF => ?_)
        · refine g_bipush 50 C 20 dX8_most_48 rfl (by decide) ?_
          refine g_istore_n 51 C [(3, .int 20), (0, .ref (ad 0)), (1, .int x1), (2, .int x2)] dX8_most_50 rfl rfl (by decide) rfl ?_
          refine g_bipush 53 C 60 dX8_most_51 rfl (by decide) ?_
          refine g_aload_n 54 C dX8_most_53 rfl rfl rfl ?_
          refine g_get 57 C (own := RX8) (C1 := RX8) (T := TX8) 0 8 (.ref (ad 1)) kiX8_most_X8 kfX8_most_13 rfl dX8_most_54 rfl rfl rfl (by decide) rfl ?_
          refine g_iload_n 58 C dX8_most_57 rfl rfl rfl ?_
          refine g_iconst 59 C 0 dX8_most_58 rfl (by decide) ?_
          obtain ⟨r8, q9, hF⟩ := sg_bndE hF
          refine g_callSi 62 C (w2 := (ww_X8 Y ad σ)) (As := [.int x1, .int 0]) (st := [.ref (ad 1), .int 60]) (n0 := 2) [] [0, 1, 2, 3, 4, 5, 6, 7, 8, 9, 10, 11, 12] [0, 1, 2, 3, 4, 5, 6, 7, 8, 9, 10, 11, 12] (c_X8_at l hZ (ad := ad) (σ := σ) q9) gX8_most_X8_at ⟨by decide +kernel, by decide +kernel, rfl⟩ rfl ⟨Nat.le_of_ble_eq_true rfl, Nat.le_of_ble_eq_true rfl⟩ ⟨rfl, rfl, rfl, by decide, rfl, rfl⟩ rfl rfl (Nat.le_of_ble_eq_true rfl) ⟨Nat.le_refl _, Nat.le_refl _⟩ dX8_most_59 rfl rfl ?_
          obtain ⟨h10, hF⟩ := sg_grdE hF
          refine g_ialdc 63 C 1 (r8.toNatClampNeg) (σ 1 r8.toNatClampNeg) dX8_most_62 rfl rfl rfl h10 rfl ?_
          refine g_isub 64 C dX8_most_63 rfl ?_
          obtain ⟨y11, ey11, hF⟩ := sg_letE hF
          refine g_top ey11 ?_
          refine g_istore 66 C [(4, .int y11), (3, .int 20), (0, .ref (ad 0)), (1, .int x1), (2, .int x2)] dX8_most_64 rfl (by decide) rfl ?_
          refine g_iload_n 67 C dX8_most_66 rfl rfl rfl ?_
          refine g_iload 69 C dX8_most_67 rfl rfl ?_
          refine g_icmp_le 72 75 C dX8_most_69 (by decide) rfl hF (fun hF => ?_) (fun hF => ?_)
          · refine g_lv (lv2 := [(0, .ref (ad 0)), (1, .int x1), (2, .int x2), (3, .int 20)]) [2, 3, 4, 1] rfl ?_
            exact K75  1000 20 σ hF
          · refine g_iload 74 C dX8_most_72 rfl rfl ?_
            refine g_istore_n 75 C [(3, .int y11), (4, .int y11), (0, .ref (ad 0)), (1, .int x1), (2, .int x2)] dX8_most_74 rfl rfl (by decide) rfl ?_
            refine g_lv (lv2 := [(0, .ref (ad 0)), (1, .int x1), (2, .int x2), (3, .int y11)]) [2, 3, 4, 0] rfl ?_
            exact K75  1000 y11 σ hF
        · refine g_iconst 47 C 0 dX8_most_46 rfl (by decide) ?_
          obtain ⟨e1, e2⟩ := sg_pairE hF
          exact g_iret C hr rfl hQ hsz dX8_most_47 e1.symm (by rw [e2])
    · refine g_bipush 21 C (-2) dX8_most_19 rfl (by decide) ?_
      obtain ⟨e1, e2⟩ := sg_pairE hF
      exact g_iret C hr rfl hQ hsz dX8_most_21 e1.symm (by rw [e2])
  · refine g_iconst 8 C (-1) dX8_most_7 rfl (by decide) ?_
    obtain ⟨e1, e2⟩ := sg_pairE hF
    exact g_iret C hr rfl hQ hsz dX8_most_8 e1.symm (by rw [e2])
theorem kiX8_ranked_X8 : ∀ w ∈ u_ws RX8 TX8 27, w ∈ wsX8_ranked := by decide +kernel
theorem kfX8_ranked_13 : Cond.fieldLink RX8 13 "WeatherMinistryModel" "v" "[I" ∈ wsX8_ranked := by decide +kernel
def f_X8_ranked_J74 (x1 : Int32) (σ : sg_S) (κ2 : Int32 → Option Int32) (κ12 : Int32 → Int32 → Int32 → Option Int32) (z2 : Int32) (z3 : Int32) (z4 : Int32) (t0 : Int32) : Option Int32 := (if z4 = z2 then sg_let (z3 + 0) (fun y14 => κ12 z2 y14 (z4 + 1)) else (if t0 ≤ 0 then (if t0 = 0 then (if z4 < z2 then sg_let (z3 + 1) (fun y18 => κ12 z2 y18 (z4 + 1)) else sg_let (z3 + 0) (fun y17 => κ12 z2 y17 (z4 + 1))) else sg_let (z3 + 0) (fun y16 => κ12 z2 y16 (z4 + 1))) else sg_let (z3 + 1) (fun y15 => κ12 z2 y15 (z4 + 1))))
def f_X8_ranked_L12 (x1 : Int32) (σ : sg_S) (κ2 : Int32 → Option Int32) : Nat → Int32 → Int32 → Int32 → Option Int32
  | 0, _, _, _ => none
  | nz + 1, z2, z3, z4 => (if z4 < 5 then sg_bnd (f_X8_at z4 3) (fun r1 => sg_grd (sg_in r1 79) (sg_bnd (f_X8_at z2 3) (fun r4 => sg_grd (sg_in r4 79) (sg_let ((σ 1 r1.toNatClampNeg) - (σ 1 r4.toNatClampNeg)) (fun y7 => (if y7 = 0 then sg_bnd (f_X8_at z2 0) (fun r8 => sg_grd (sg_in r8 79) (sg_bnd (f_X8_at z4 0) (fun r11 => sg_grd (sg_in r11 79) (f_X8_ranked_J74 x1 σ κ2 (fun z2' z3' z4' => f_X8_ranked_L12 x1 σ κ2 nz z2' z3' z4') z2 z3 z4 ((σ 1 r8.toNatClampNeg) - (σ 1 r11.toNatClampNeg)))))) else f_X8_ranked_J74 x1 σ κ2 (fun z2' z3' z4' => f_X8_ranked_L12 x1 σ κ2 nz z2' z3' z4') z2 z3 z4 y7)))))) else (if z3 = x1 then some z2 else κ2 (z2 + 1)))
def f_X8_ranked_L2 (x1 : Int32) (σ : sg_S) : Nat → Int32 → Option Int32
  | 0, _ => none
  | nz + 1, z2 => (if z2 < 5 then f_X8_ranked_L12 x1 σ (fun z2' => f_X8_ranked_L2 x1 σ nz z2') 1000 z2 0 0 else some ((-1)))
def f_X8_ranked (x1 : Int32) (σ : sg_S) : Option Int32 := f_X8_ranked_L2 x1 σ 1000 0
set_option maxHeartbeats 4000000 in
set_option maxRecDepth 100000 in
theorem c_X8_ranked (l : Launch) {D : va_G} {Y : Nat → ClassId} {Z : (Nat → Prop) → State → Heap → Prop} (hZ : sg_Zok Z) {ad : Nat → Nat} {σ : sg_S} {x1 : Int32} {r : Int32} (hF : f_X8_ranked x1 σ = some r) : sg_MI l yX8_ranked wsX8_ranked 1 21 D Y Z [.ref (ad 0), .int x1] (ww_X8 Y ad σ) r (ww_X8 Y ad σ) := by
  intro sz
  refine sg_enter (own := RX8) (maxL := 6) (ret := (some .int)) (cc := cX8_ranked) (by decide +kernel) rfl rfl (Nat.le_of_ble_eq_true rfl) hZ ?_
  intro p e s m args below meth c C hr Q hQ hsz
  refine g_lv (lv2 := [(0, .ref (ad 0)), (1, .int x1)]) [0, 1] rfl ?_
  have K74 : ∀ (κ2 : Int32 → Option Int32), (∀ (z2 : Int32), κ2 z2 = some r → sg_G p l e ({ frames := 1, cells := 0, slots := 0, locals := 21 } : Room) s m args below meth c D (va_A (ww_X8 Y ad σ) s.heap.size) 6 0 0 Q 2 [(0, .ref (ad 0)), (1, .int x1), (2, .int z2)] [] (ww_X8 Y ad σ)) → ∀ (κ12 : Int32 → Int32 → Int32 → Option Int32), (∀ (z2 : Int32) (z3 : Int32) (z4 : Int32), κ12 z2 z3 z4 = some r → sg_G p l e ({ frames := 1, cells := 0, slots := 0, locals := 21 } : Room) s m args below meth c D (va_A (ww_X8 Y ad σ) s.heap.size) 6 0 0 Q 12 [(0, .ref (ad 0)), (1, .int x1), (2, .int z2), (3, .int z3), (4, .int z4)] [] (ww_X8 Y ad σ)) → ∀ (z2 : Int32) (z3 : Int32) (z4 : Int32) (t0 : Int32), f_X8_ranked_J74 x1 σ κ2 κ12 z2 z3 z4 t0 = some r → sg_G p l e ({ frames := 1, cells := 0, slots := 0, locals := 21 } : Room) s m args below meth c D (va_A (ww_X8 Y ad σ) s.heap.size) 6 0 0 Q 74 [(0, .ref (ad 0)), (1, .int x1), (2, .int z2), (3, .int z3), (4, .int z4)] [.int t0] (ww_X8 Y ad σ) := by
    intro κ2 hκ2 κ12 hκ12 z2 z3 z4 t0 hF
    rw [f_X8_ranked_J74] at hF
    refine g_istore 76 C [(5, .int t0), (0, .ref (ad 0)), (1, .int x1), (2, .int z2), (3, .int z3), (4, .int z4)] dX8_ranked_74 rfl (by decide) rfl ?_
    refine g_iload_n 77 C dX8_ranked_76 rfl rfl rfl ?_
    refine g_iload 79 C dX8_ranked_77 rfl rfl ?_
    refine g_iload_n 80 C dX8_ranked_79 rfl rfl rfl ?_
    refine g_icmp_eq 83 103 C dX8_ranked_80 (by decide) rfl hF (fun hF => ?_) (fun hF => ?_)
    · refine g_iconst 104 C 0 dX8_ranked_103 rfl (by decide) ?_
      refine g_iadd 105 C dX8_ranked_104 rfl ?_
      obtain ⟨y14, ey14, hF⟩ := sg_letE hF
      refine g_top ey14 ?_
      refine g_istore_n 106 C [(3, .int y14), (5, .int t0), (0, .ref (ad 0)), (1, .int x1), (2, .int z2), (4, .int z4)] dX8_ranked_105 rfl rfl (by decide) rfl ?_
      refine g_iinc 109 C 5 (z4 + 1) [(4, .int (z4 + 1)), (3, .int y14), (5, .int t0), (0, .ref (ad 0)), (1, .int x1), (2, .int z2)] dX8_ranked_106 rfl rfl rfl (by decide) rfl ?_
      refine g_goto 12 C dX8_ranked_109 (by decide) ?_
      refine g_lv (lv2 := [(0, .ref (ad 0)), (1, .int x1), (2, .int z2), (3, .int y14), (4, .int (z4 + 1))]) [3, 4, 5, 1, 0] rfl ?_
      exact hκ12 z2 y14 (z4 + 1) hF
    · refine g_iload 85 C dX8_ranked_83 rfl rfl ?_
      refine g_if_gt 88 99 C dX8_ranked_85 (by decide) rfl hF (fun hF => ?_) (fun hF => ?_)
      · refine g_iconst 100 C 1 dX8_ranked_99 rfl (by decide) ?_
        refine g_goto 104 C dX8_ranked_100 (by decide) ?_
        refine g_iadd 105 C dX8_ranked_104 rfl ?_
        obtain ⟨y15, ey15, hF⟩ := sg_letE hF
        refine g_top ey15 ?_
        refine g_istore_n 106 C [(3, .int y15), (5, .int t0), (0, .ref (ad 0)), (1, .int x1), (2, .int z2), (4, .int z4)] dX8_ranked_105 rfl rfl (by decide) rfl ?_
        refine g_iinc 109 C 5 (z4 + 1) [(4, .int (z4 + 1)), (3, .int y15), (5, .int t0), (0, .ref (ad 0)), (1, .int x1), (2, .int z2)] dX8_ranked_106 rfl rfl rfl (by decide) rfl ?_
        refine g_goto 12 C dX8_ranked_109 (by decide) ?_
        refine g_lv (lv2 := [(0, .ref (ad 0)), (1, .int x1), (2, .int z2), (3, .int y15), (4, .int (z4 + 1))]) [3, 4, 5, 1, 0] rfl ?_
        exact hκ12 z2 y15 (z4 + 1) hF
      · refine g_iload 90 C dX8_ranked_88 rfl rfl ?_
        refine g_if_ne 93 103 C dX8_ranked_90 (by decide) rfl hF (fun hF => ?_) (fun hF => ?_)
        · refine g_iconst 104 C 0 dX8_ranked_103 rfl (by decide) ?_
          refine g_iadd 105 C dX8_ranked_104 rfl ?_
          obtain ⟨y16, ey16, hF⟩ := sg_letE hF
          refine g_top ey16 ?_
          refine g_istore_n 106 C [(3, .int y16), (5, .int t0), (0, .ref (ad 0)), (1, .int x1), (2, .int z2), (4, .int z4)] dX8_ranked_105 rfl rfl (by decide) rfl ?_
          refine g_iinc 109 C 5 (z4 + 1) [(4, .int (z4 + 1)), (3, .int y16), (5, .int t0), (0, .ref (ad 0)), (1, .int x1), (2, .int z2)] dX8_ranked_106 rfl rfl rfl (by decide) rfl ?_
          refine g_goto 12 C dX8_ranked_109 (by decide) ?_
          refine g_lv (lv2 := [(0, .ref (ad 0)), (1, .int x1), (2, .int z2), (3, .int y16), (4, .int (z4 + 1))]) [3, 4, 5, 1, 0] rfl ?_
          exact hκ12 z2 y16 (z4 + 1) hF
        · refine g_iload 95 C dX8_ranked_93 rfl rfl ?_
          refine g_iload_n 96 C dX8_ranked_95 rfl rfl rfl ?_
          refine g_icmp_ge 99 103 C dX8_ranked_96 (by decide) rfl hF (fun hF => ?_) (fun hF => ?_)
          · refine g_iconst 104 C 0 dX8_ranked_103 rfl (by decide) ?_
            refine g_iadd 105 C dX8_ranked_104 rfl ?_
            obtain ⟨y17, ey17, hF⟩ := sg_letE hF
            refine g_top ey17 ?_
            refine g_istore_n 106 C [(3, .int y17), (5, .int t0), (0, .ref (ad 0)), (1, .int x1), (2, .int z2), (4, .int z4)] dX8_ranked_105 rfl rfl (by decide) rfl ?_
            refine g_iinc 109 C 5 (z4 + 1) [(4, .int (z4 + 1)), (3, .int y17), (5, .int t0), (0, .ref (ad 0)), (1, .int x1), (2, .int z2)] dX8_ranked_106 rfl rfl rfl (by decide) rfl ?_
            refine g_goto 12 C dX8_ranked_109 (by decide) ?_
            refine g_lv (lv2 := [(0, .ref (ad 0)), (1, .int x1), (2, .int z2), (3, .int y17), (4, .int (z4 + 1))]) [3, 4, 5, 1, 0] rfl ?_
            exact hκ12 z2 y17 (z4 + 1) hF
          · refine g_iconst 100 C 1 dX8_ranked_99 rfl (by decide) ?_
            refine g_goto 104 C dX8_ranked_100 (by decide) ?_
            refine g_iadd 105 C dX8_ranked_104 rfl ?_
            obtain ⟨y18, ey18, hF⟩ := sg_letE hF
            refine g_top ey18 ?_
            refine g_istore_n 106 C [(3, .int y18), (5, .int t0), (0, .ref (ad 0)), (1, .int x1), (2, .int z2), (4, .int z4)] dX8_ranked_105 rfl rfl (by decide) rfl ?_
            refine g_iinc 109 C 5 (z4 + 1) [(4, .int (z4 + 1)), (3, .int y18), (5, .int t0), (0, .ref (ad 0)), (1, .int x1), (2, .int z2)] dX8_ranked_106 rfl rfl rfl (by decide) rfl ?_
            refine g_goto 12 C dX8_ranked_109 (by decide) ?_
            refine g_lv (lv2 := [(0, .ref (ad 0)), (1, .int x1), (2, .int z2), (3, .int y18), (4, .int (z4 + 1))]) [3, 4, 5, 1, 0] rfl ?_
            exact hκ12 z2 y18 (z4 + 1) hF
  have K12 : ∀ (κ2 : Int32 → Option Int32), (∀ (z2 : Int32), κ2 z2 = some r → sg_G p l e ({ frames := 1, cells := 0, slots := 0, locals := 21 } : Room) s m args below meth c D (va_A (ww_X8 Y ad σ) s.heap.size) 6 0 0 Q 2 [(0, .ref (ad 0)), (1, .int x1), (2, .int z2)] [] (ww_X8 Y ad σ)) → ∀ (nz : Nat), ∀ (z2 : Int32) (z3 : Int32) (z4 : Int32), f_X8_ranked_L12 x1 σ κ2 nz z2 z3 z4 = some r → sg_G p l e ({ frames := 1, cells := 0, slots := 0, locals := 21 } : Room) s m args below meth c D (va_A (ww_X8 Y ad σ) s.heap.size) 6 0 0 Q 12 [(0, .ref (ad 0)), (1, .int x1), (2, .int z2), (3, .int z3), (4, .int z4)] [] (ww_X8 Y ad σ) := by
    intro κ2 hκ2 nz
    induction nz with
    | zero =>
      intro z2 z3 z4 hF
      rw [f_X8_ranked_L12.eq_1] at hF
      exact nomatch hF
    | succ nz ih =>
      intro z2 z3 z4 hF
      rw [f_X8_ranked_L12.eq_2] at hF
      refine g_iload 14 C dX8_ranked_12 rfl rfl ?_
      refine g_iconst 15 C 5 dX8_ranked_14 rfl (by decide) ?_
      refine g_icmp_ge 18 112 C dX8_ranked_15 (by decide) rfl hF (fun hF => ?_) (fun hF => ?_)
      · refine g_iload_n 113 C dX8_ranked_112 rfl rfl rfl ?_
        refine g_iload_n 114 C dX8_ranked_113 rfl rfl rfl ?_
        refine g_icmp_ne 117 119 C dX8_ranked_114 (by decide) rfl hF (fun hF => ?_) (fun hF => ?_)
        · refine g_iinc 122 C 2 (z2 + 1) [(2, .int (z2 + 1)), (0, .ref (ad 0)), (1, .int x1), (3, .int z3), (4, .int z4)] dX8_ranked_119 rfl rfl rfl (by decide) rfl ?_
          refine g_goto 2 C dX8_ranked_122 (by decide) ?_
          refine g_lv (lv2 := [(0, .ref (ad 0)), (1, .int x1), (2, .int (z2 + 1))]) [1, 2, 0] rfl ?_
          exact hκ2 (z2 + 1) hF
        · refine g_iload_n 118 C dX8_ranked_117 rfl rfl rfl ?_
          have e1 := sg_someE hF
          exact g_iret C hr rfl hQ hsz dX8_ranked_118 e1.symm rfl
      · refine g_aload_n 19 C dX8_ranked_18 rfl rfl rfl ?_
        refine g_get 22 C (own := RX8) (C1 := RX8) (T := TX8) 0 8 (.ref (ad 1)) kiX8_ranked_X8 kfX8_ranked_13 rfl dX8_ranked_19 rfl rfl rfl (by decide) rfl ?_
        refine g_iload 24 C dX8_ranked_22 rfl rfl ?_
        refine g_iconst 25 C 3 dX8_ranked_24 rfl (by decide) ?_
        obtain ⟨r1, q2, hF⟩ := sg_bndE hF
        refine g_callSi 28 C (w2 := (ww_X8 Y ad σ)) (As := [.int z4, .int 3]) (st := [.ref (ad 1)]) (n0 := 2) [] [0, 1, 2, 3, 4, 5, 6, 7, 8, 9, 10, 11, 12] [0, 1, 2, 3, 4, 5, 6, 7, 8, 9, 10, 11, 12] (c_X8_at l hZ (ad := ad) (σ := σ) q2) gX8_ranked_X8_at ⟨by decide +kernel, by decide +kernel, rfl⟩ rfl ⟨Nat.le_of_ble_eq_true rfl, Nat.le_of_ble_eq_true rfl⟩ ⟨rfl, rfl, rfl, by decide, rfl, rfl⟩ rfl rfl (Nat.le_of_ble_eq_true rfl) ⟨Nat.le_refl _, Nat.le_refl _⟩ dX8_ranked_25 rfl rfl ?_
        obtain ⟨h3, hF⟩ := sg_grdE hF
        refine g_ialdc 29 C 1 (r1.toNatClampNeg) (σ 1 r1.toNatClampNeg) dX8_ranked_28 rfl rfl rfl h3 rfl ?_
        refine g_aload_n 30 C dX8_ranked_29 rfl rfl rfl ?_
        refine g_get 33 C (own := RX8) (C1 := RX8) (T := TX8) 0 8 (.ref (ad 1)) kiX8_ranked_X8 kfX8_ranked_13 rfl dX8_ranked_30 rfl rfl rfl (by decide) rfl ?_
        refine g_iload_n 34 C dX8_ranked_33 rfl rfl rfl ?_
        refine g_iconst 35 C 3 dX8_ranked_34 rfl (by decide) ?_
        obtain ⟨r4, q5, hF⟩ := sg_bndE hF
        refine g_callSi 38 C (w2 := (ww_X8 Y ad σ)) (As := [.int z2, .int 3]) (st := [.ref (ad 1), .int (σ 1 r1.toNatClampNeg)]) (n0 := 2) [] [0, 1, 2, 3, 4, 5, 6, 7, 8, 9, 10, 11, 12] [0, 1, 2, 3, 4, 5, 6, 7, 8, 9, 10, 11, 12] (c_X8_at l hZ (ad := ad) (σ := σ) q5) gX8_ranked_X8_at ⟨by decide +kernel, by decide +kernel, rfl⟩ rfl ⟨Nat.le_of_ble_eq_true rfl, Nat.le_of_ble_eq_true rfl⟩ ⟨rfl, rfl, rfl, by decide, rfl, rfl⟩ rfl rfl (Nat.le_of_ble_eq_true rfl) ⟨Nat.le_refl _, Nat.le_refl _⟩ dX8_ranked_35 rfl rfl ?_
        obtain ⟨h6, hF⟩ := sg_grdE hF
        refine g_ialdc 39 C 1 (r4.toNatClampNeg) (σ 1 r4.toNatClampNeg) dX8_ranked_38 rfl rfl rfl h6 rfl ?_
        refine g_isub 40 C dX8_ranked_39 rfl ?_
        obtain ⟨y7, ey7, hF⟩ := sg_letE hF
        refine g_top ey7 ?_
        refine g_istore 42 C [(5, .int y7), (0, .ref (ad 0)), (1, .int x1), (2, .int z2), (3, .int z3), (4, .int z4)] dX8_ranked_40 rfl (by decide) rfl ?_
        refine g_iload 44 C dX8_ranked_42 rfl rfl ?_
        refine g_if_eq 47 52 C dX8_ranked_44 (by decide) rfl hF (fun hF => ?_) (fun hF => ?_)
        · refine g_aload_n 53 C dX8_ranked_52 rfl rfl rfl ?_
          refine g_get 56 C (own := RX8) (C1 := RX8) (T := TX8) 0 8 (.ref (ad 1)) kiX8_ranked_X8 kfX8_ranked_13 rfl dX8_ranked_53 rfl rfl rfl (by decide) rfl ?_
          refine g_iload_n 57 C dX8_ranked_56 rfl rfl rfl ?_
          refine g_iconst 58 C 0 dX8_ranked_57 rfl (by decide) ?_
          obtain ⟨r8, q9, hF⟩ := sg_bndE hF
          refine g_callSi 61 C (w2 := (ww_X8 Y ad σ)) (As := [.int z2, .int 0]) (st := [.ref (ad 1)]) (n0 := 2) [] [0, 1, 2, 3, 4, 5, 6, 7, 8, 9, 10, 11, 12] [0, 1, 2, 3, 4, 5, 6, 7, 8, 9, 10, 11, 12] (c_X8_at l hZ (ad := ad) (σ := σ) q9) gX8_ranked_X8_at ⟨by decide +kernel, by decide +kernel, rfl⟩ rfl ⟨Nat.le_of_ble_eq_true rfl, Nat.le_of_ble_eq_true rfl⟩ ⟨rfl, rfl, rfl, by decide, rfl, rfl⟩ rfl rfl (Nat.le_of_ble_eq_true rfl) ⟨Nat.le_refl _, Nat.le_refl _⟩ dX8_ranked_58 rfl rfl ?_
          obtain ⟨h10, hF⟩ := sg_grdE hF
          refine g_ialdc 62 C 1 (r8.toNatClampNeg) (σ 1 r8.toNatClampNeg) dX8_ranked_61 rfl rfl rfl h10 rfl ?_
          refine g_aload_n 63 C dX8_ranked_62 rfl rfl rfl ?_
          refine g_get 66 C (own := RX8) (C1 := RX8) (T := TX8) 0 8 (.ref (ad 1)) kiX8_ranked_X8 kfX8_ranked_13 rfl dX8_ranked_63 rfl rfl rfl (by decide) rfl ?_
          refine g_iload 68 C dX8_ranked_66 rfl rfl ?_
          refine g_iconst 69 C 0 dX8_ranked_68 rfl (by decide) ?_
          obtain ⟨r11, q12, hF⟩ := sg_bndE hF
          refine g_callSi 72 C (w2 := (ww_X8 Y ad σ)) (As := [.int z4, .int 0]) (st := [.ref (ad 1), .int (σ 1 r8.toNatClampNeg)]) (n0 := 2) [] [0, 1, 2, 3, 4, 5, 6, 7, 8, 9, 10, 11, 12] [0, 1, 2, 3, 4, 5, 6, 7, 8, 9, 10, 11, 12] (c_X8_at l hZ (ad := ad) (σ := σ) q12) gX8_ranked_X8_at ⟨by decide +kernel, by decide +kernel, rfl⟩ rfl ⟨Nat.le_of_ble_eq_true rfl, Nat.le_of_ble_eq_true rfl⟩ ⟨rfl, rfl, rfl, by decide, rfl, rfl⟩ rfl rfl (Nat.le_of_ble_eq_true rfl) ⟨Nat.le_refl _, Nat.le_refl _⟩ dX8_ranked_69 rfl rfl ?_
          obtain ⟨h13, hF⟩ := sg_grdE hF
          refine g_ialdc 73 C 1 (r11.toNatClampNeg) (σ 1 r11.toNatClampNeg) dX8_ranked_72 rfl rfl rfl h13 rfl ?_
          refine g_isub 74 C dX8_ranked_73 rfl ?_
          refine g_lv (lv2 := [(0, .ref (ad 0)), (1, .int x1), (2, .int z2), (3, .int z3), (4, .int z4)]) [1, 2, 3, 4, 5] rfl ?_
          exact K74 κ2 hκ2 (fun z2' z3' z4' => f_X8_ranked_L12 x1 σ κ2 nz z2' z3' z4') ih z2 z3 z4 ((σ 1 r8.toNatClampNeg) - (σ 1 r11.toNatClampNeg)) hF
        · refine g_iload 49 C dX8_ranked_47 rfl rfl ?_
          refine g_goto 74 C dX8_ranked_49 (by decide) ?_
          refine g_lv (lv2 := [(0, .ref (ad 0)), (1, .int x1), (2, .int z2), (3, .int z3), (4, .int z4)]) [1, 2, 3, 4, 5] rfl ?_
          exact K74 κ2 hκ2 (fun z2' z3' z4' => f_X8_ranked_L12 x1 σ κ2 nz z2' z3' z4') ih z2 z3 z4 y7 hF
  have K2 : ∀ (nz : Nat), ∀ (z2 : Int32), f_X8_ranked_L2 x1 σ nz z2 = some r → sg_G p l e ({ frames := 1, cells := 0, slots := 0, locals := 21 } : Room) s m args below meth c D (va_A (ww_X8 Y ad σ) s.heap.size) 6 0 0 Q 2 [(0, .ref (ad 0)), (1, .int x1), (2, .int z2)] [] (ww_X8 Y ad σ) := by
    intro nz
    induction nz with
    | zero =>
      intro z2 hF
      rw [f_X8_ranked_L2.eq_1] at hF
      exact nomatch hF
    | succ nz ih =>
      intro z2 hF
      rw [f_X8_ranked_L2.eq_2] at hF
      refine g_iload_n 3 C dX8_ranked_2 rfl rfl rfl ?_
      refine g_iconst 4 C 5 dX8_ranked_3 rfl (by decide) ?_
      refine g_icmp_ge 7 125 C dX8_ranked_4 (by decide) rfl hF (fun hF => ?_) (fun hF => ?_)
      · refine g_iconst 126 C (-1) dX8_ranked_125 rfl (by decide) ?_
        have e1 := sg_someE hF
        exact g_iret C hr rfl hQ hsz dX8_ranked_126 e1.symm rfl
      · refine g_iconst 8 C 0 dX8_ranked_7 rfl (by decide) ?_
        refine g_istore_n 9 C [(3, .int 0), (0, .ref (ad 0)), (1, .int x1), (2, .int z2)] dX8_ranked_8 rfl rfl (by decide) rfl ?_
        refine g_iconst 10 C 0 dX8_ranked_9 rfl (by decide) ?_
        refine g_istore 12 C [(4, .int 0), (3, .int 0), (0, .ref (ad 0)), (1, .int x1), (2, .int z2)] dX8_ranked_10 rfl (by decide) rfl ?_
        refine g_lv (lv2 := [(0, .ref (ad 0)), (1, .int x1), (2, .int z2), (3, .int 0), (4, .int 0)]) [2, 3, 4, 1, 0] rfl ?_
        exact K12 (fun z2' => f_X8_ranked_L2 x1 σ nz z2') ih 1000 z2 0 0 hF
  rw [f_X8_ranked] at hF
  refine g_iconst 1 C 0 dX8_ranked_0 rfl (by decide) ?_
  refine g_istore_n 2 C [(2, .int 0), (0, .ref (ad 0)), (1, .int x1)] dX8_ranked_1 rfl rfl (by decide) rfl ?_
  refine g_lv (lv2 := [(0, .ref (ad 0)), (1, .int x1), (2, .int 0)]) [1, 2, 0] rfl ?_
  exact K2  1000 0 hF
theorem kiX8_next_X8 : ∀ w ∈ u_ws RX8 TX8 27, w ∈ wsX8_next := by decide +kernel
theorem kfX8_next_13 : Cond.fieldLink RX8 13 "WeatherMinistryModel" "v" "[I" ∈ wsX8_next := by decide +kernel
def f_X8_next_J84 (x1 : Int32) (σ : sg_S) (κ2 : Int32 → Option Int32) (κ17 : Int32 → Int32 → Int32 → Option Int32) (z2 : Int32) (z3 : Int32) (z4 : Int32) (t0 : Int32) : Option Int32 := (if z4 = z2 then sg_let (z3 + 0) (fun y14 => κ17 z2 y14 (z4 + 1)) else (if t0 ≤ 0 then (if t0 = 0 then (if z4 < z2 then sg_let (z3 + 1) (fun y18 => κ17 z2 y18 (z4 + 1)) else sg_let (z3 + 0) (fun y17 => κ17 z2 y17 (z4 + 1))) else sg_let (z3 + 0) (fun y16 => κ17 z2 y16 (z4 + 1))) else sg_let (z3 + 1) (fun y15 => κ17 z2 y15 (z4 + 1))))
def f_X8_next_L17 (x1 : Int32) (σ : sg_S) (κ2 : Int32 → Option Int32) : Nat → Int32 → Int32 → Int32 → Option Int32
  | 0, _, _, _ => none
  | nz + 1, z2, z3, z4 => (if z4 < σ 1 1 then sg_bnd (f_X8_in z2 2) (fun r1 => sg_grd (sg_in r1 79) (sg_bnd (f_X8_in z4 2) (fun r4 => sg_grd (sg_in r4 79) (sg_let ((σ 1 r1.toNatClampNeg) - (σ 1 r4.toNatClampNeg)) (fun y7 => (if y7 = 0 then sg_bnd (f_X8_in z4 1) (fun r8 => sg_grd (sg_in r8 79) (sg_bnd (f_X8_in z2 1) (fun r11 => sg_grd (sg_in r11 79) (f_X8_next_J84 x1 σ κ2 (fun z2' z3' z4' => f_X8_next_L17 x1 σ κ2 nz z2' z3' z4') z2 z3 z4 ((σ 1 r8.toNatClampNeg) - (σ 1 r11.toNatClampNeg)))))) else f_X8_next_J84 x1 σ κ2 (fun z2' z3' z4' => f_X8_next_L17 x1 σ κ2 nz z2' z3' z4') z2 z3 z4 y7)))))) else (if z3 = x1 then some z2 else κ2 (z2 + 1)))
def f_X8_next_L2 (x1 : Int32) (σ : sg_S) : Nat → Int32 → Option Int32
  | 0, _ => none
  | nz + 1, z2 => (if z2 < σ 1 1 then f_X8_next_L17 x1 σ (fun z2' => f_X8_next_L2 x1 σ nz z2') 1000 z2 0 0 else some ((-1)))
def f_X8_next (x1 : Int32) (σ : sg_S) : Option Int32 := f_X8_next_L2 x1 σ 1000 0
set_option maxHeartbeats 4000000 in
set_option maxRecDepth 100000 in
theorem c_X8_next (l : Launch) {D : va_G} {Y : Nat → ClassId} {Z : (Nat → Prop) → State → Heap → Prop} (hZ : sg_Zok Z) {ad : Nat → Nat} {σ : sg_S} {x1 : Int32} {r : Int32} (hF : f_X8_next x1 σ = some r) : sg_MI l yX8_next wsX8_next 1 21 D Y Z [.ref (ad 0), .int x1] (ww_X8 Y ad σ) r (ww_X8 Y ad σ) := by
  intro sz
  refine sg_enter (own := RX8) (maxL := 6) (ret := (some .int)) (cc := cX8_next) (by decide +kernel) rfl rfl (Nat.le_of_ble_eq_true rfl) hZ ?_
  intro p e s m args below meth c C hr Q hQ hsz
  refine g_lv (lv2 := [(0, .ref (ad 0)), (1, .int x1)]) [0, 1] rfl ?_
  have K84 : ∀ (κ2 : Int32 → Option Int32), (∀ (z2 : Int32), κ2 z2 = some r → sg_G p l e ({ frames := 1, cells := 0, slots := 0, locals := 21 } : Room) s m args below meth c D (va_A (ww_X8 Y ad σ) s.heap.size) 6 0 0 Q 2 [(0, .ref (ad 0)), (1, .int x1), (2, .int z2)] [] (ww_X8 Y ad σ)) → ∀ (κ17 : Int32 → Int32 → Int32 → Option Int32), (∀ (z2 : Int32) (z3 : Int32) (z4 : Int32), κ17 z2 z3 z4 = some r → sg_G p l e ({ frames := 1, cells := 0, slots := 0, locals := 21 } : Room) s m args below meth c D (va_A (ww_X8 Y ad σ) s.heap.size) 6 0 0 Q 17 [(0, .ref (ad 0)), (1, .int x1), (2, .int z2), (3, .int z3), (4, .int z4)] [] (ww_X8 Y ad σ)) → ∀ (z2 : Int32) (z3 : Int32) (z4 : Int32) (t0 : Int32), f_X8_next_J84 x1 σ κ2 κ17 z2 z3 z4 t0 = some r → sg_G p l e ({ frames := 1, cells := 0, slots := 0, locals := 21 } : Room) s m args below meth c D (va_A (ww_X8 Y ad σ) s.heap.size) 6 0 0 Q 84 [(0, .ref (ad 0)), (1, .int x1), (2, .int z2), (3, .int z3), (4, .int z4)] [.int t0] (ww_X8 Y ad σ) := by
    intro κ2 hκ2 κ17 hκ17 z2 z3 z4 t0 hF
    rw [f_X8_next_J84] at hF
    refine g_istore 86 C [(5, .int t0), (0, .ref (ad 0)), (1, .int x1), (2, .int z2), (3, .int z3), (4, .int z4)] dX8_next_84 rfl (by decide) rfl ?_
    refine g_iload_n 87 C dX8_next_86 rfl rfl rfl ?_
    refine g_iload 89 C dX8_next_87 rfl rfl ?_
    refine g_iload_n 90 C dX8_next_89 rfl rfl rfl ?_
    refine g_icmp_eq 93 113 C dX8_next_90 (by decide) rfl hF (fun hF => ?_) (fun hF => ?_)
    · refine g_iconst 114 C 0 dX8_next_113 rfl (by decide) ?_
      refine g_iadd 115 C dX8_next_114 rfl ?_
      obtain ⟨y14, ey14, hF⟩ := sg_letE hF
      refine g_top ey14 ?_
      refine g_istore_n 116 C [(3, .int y14), (5, .int t0), (0, .ref (ad 0)), (1, .int x1), (2, .int z2), (4, .int z4)] dX8_next_115 rfl rfl (by decide) rfl ?_
      refine g_iinc 119 C 5 (z4 + 1) [(4, .int (z4 + 1)), (3, .int y14), (5, .int t0), (0, .ref (ad 0)), (1, .int x1), (2, .int z2)] dX8_next_116 rfl rfl rfl (by decide) rfl ?_
      refine g_goto 17 C dX8_next_119 (by decide) ?_
      refine g_lv (lv2 := [(0, .ref (ad 0)), (1, .int x1), (2, .int z2), (3, .int y14), (4, .int (z4 + 1))]) [3, 4, 5, 1, 0] rfl ?_
      exact hκ17 z2 y14 (z4 + 1) hF
    · refine g_iload 95 C dX8_next_93 rfl rfl ?_
      refine g_if_gt 98 109 C dX8_next_95 (by decide) rfl hF (fun hF => ?_) (fun hF => ?_)
      · refine g_iconst 110 C 1 dX8_next_109 rfl (by decide) ?_
        refine g_goto 114 C dX8_next_110 (by decide) ?_
        refine g_iadd 115 C dX8_next_114 rfl ?_
        obtain ⟨y15, ey15, hF⟩ := sg_letE hF
        refine g_top ey15 ?_
        refine g_istore_n 116 C [(3, .int y15), (5, .int t0), (0, .ref (ad 0)), (1, .int x1), (2, .int z2), (4, .int z4)] dX8_next_115 rfl rfl (by decide) rfl ?_
        refine g_iinc 119 C 5 (z4 + 1) [(4, .int (z4 + 1)), (3, .int y15), (5, .int t0), (0, .ref (ad 0)), (1, .int x1), (2, .int z2)] dX8_next_116 rfl rfl rfl (by decide) rfl ?_
        refine g_goto 17 C dX8_next_119 (by decide) ?_
        refine g_lv (lv2 := [(0, .ref (ad 0)), (1, .int x1), (2, .int z2), (3, .int y15), (4, .int (z4 + 1))]) [3, 4, 5, 1, 0] rfl ?_
        exact hκ17 z2 y15 (z4 + 1) hF
      · refine g_iload 100 C dX8_next_98 rfl rfl ?_
        refine g_if_ne 103 113 C dX8_next_100 (by decide) rfl hF (fun hF => ?_) (fun hF => ?_)
        · refine g_iconst 114 C 0 dX8_next_113 rfl (by decide) ?_
          refine g_iadd 115 C dX8_next_114 rfl ?_
          obtain ⟨y16, ey16, hF⟩ := sg_letE hF
          refine g_top ey16 ?_
          refine g_istore_n 116 C [(3, .int y16), (5, .int t0), (0, .ref (ad 0)), (1, .int x1), (2, .int z2), (4, .int z4)] dX8_next_115 rfl rfl (by decide) rfl ?_
          refine g_iinc 119 C 5 (z4 + 1) [(4, .int (z4 + 1)), (3, .int y16), (5, .int t0), (0, .ref (ad 0)), (1, .int x1), (2, .int z2)] dX8_next_116 rfl rfl rfl (by decide) rfl ?_
          refine g_goto 17 C dX8_next_119 (by decide) ?_
          refine g_lv (lv2 := [(0, .ref (ad 0)), (1, .int x1), (2, .int z2), (3, .int y16), (4, .int (z4 + 1))]) [3, 4, 5, 1, 0] rfl ?_
          exact hκ17 z2 y16 (z4 + 1) hF
        · refine g_iload 105 C dX8_next_103 rfl rfl ?_
          refine g_iload_n 106 C dX8_next_105 rfl rfl rfl ?_
          refine g_icmp_ge 109 113 C dX8_next_106 (by decide) rfl hF (fun hF => ?_) (fun hF => ?_)
          · refine g_iconst 114 C 0 dX8_next_113 rfl (by decide) ?_
            refine g_iadd 115 C dX8_next_114 rfl ?_
            obtain ⟨y17, ey17, hF⟩ := sg_letE hF
            refine g_top ey17 ?_
            refine g_istore_n 116 C [(3, .int y17), (5, .int t0), (0, .ref (ad 0)), (1, .int x1), (2, .int z2), (4, .int z4)] dX8_next_115 rfl rfl (by decide) rfl ?_
            refine g_iinc 119 C 5 (z4 + 1) [(4, .int (z4 + 1)), (3, .int y17), (5, .int t0), (0, .ref (ad 0)), (1, .int x1), (2, .int z2)] dX8_next_116 rfl rfl rfl (by decide) rfl ?_
            refine g_goto 17 C dX8_next_119 (by decide) ?_
            refine g_lv (lv2 := [(0, .ref (ad 0)), (1, .int x1), (2, .int z2), (3, .int y17), (4, .int (z4 + 1))]) [3, 4, 5, 1, 0] rfl ?_
            exact hκ17 z2 y17 (z4 + 1) hF
          · refine g_iconst 110 C 1 dX8_next_109 rfl (by decide) ?_
            refine g_goto 114 C dX8_next_110 (by decide) ?_
            refine g_iadd 115 C dX8_next_114 rfl ?_
            obtain ⟨y18, ey18, hF⟩ := sg_letE hF
            refine g_top ey18 ?_
            refine g_istore_n 116 C [(3, .int y18), (5, .int t0), (0, .ref (ad 0)), (1, .int x1), (2, .int z2), (4, .int z4)] dX8_next_115 rfl rfl (by decide) rfl ?_
            refine g_iinc 119 C 5 (z4 + 1) [(4, .int (z4 + 1)), (3, .int y18), (5, .int t0), (0, .ref (ad 0)), (1, .int x1), (2, .int z2)] dX8_next_116 rfl rfl rfl (by decide) rfl ?_
            refine g_goto 17 C dX8_next_119 (by decide) ?_
            refine g_lv (lv2 := [(0, .ref (ad 0)), (1, .int x1), (2, .int z2), (3, .int y18), (4, .int (z4 + 1))]) [3, 4, 5, 1, 0] rfl ?_
            exact hκ17 z2 y18 (z4 + 1) hF
  have K17 : ∀ (κ2 : Int32 → Option Int32), (∀ (z2 : Int32), κ2 z2 = some r → sg_G p l e ({ frames := 1, cells := 0, slots := 0, locals := 21 } : Room) s m args below meth c D (va_A (ww_X8 Y ad σ) s.heap.size) 6 0 0 Q 2 [(0, .ref (ad 0)), (1, .int x1), (2, .int z2)] [] (ww_X8 Y ad σ)) → ∀ (nz : Nat), ∀ (z2 : Int32) (z3 : Int32) (z4 : Int32), f_X8_next_L17 x1 σ κ2 nz z2 z3 z4 = some r → sg_G p l e ({ frames := 1, cells := 0, slots := 0, locals := 21 } : Room) s m args below meth c D (va_A (ww_X8 Y ad σ) s.heap.size) 6 0 0 Q 17 [(0, .ref (ad 0)), (1, .int x1), (2, .int z2), (3, .int z3), (4, .int z4)] [] (ww_X8 Y ad σ) := by
    intro κ2 hκ2 nz
    induction nz with
    | zero =>
      intro z2 z3 z4 hF
      rw [f_X8_next_L17.eq_1] at hF
      exact nomatch hF
    | succ nz ih =>
      intro z2 z3 z4 hF
      rw [f_X8_next_L17.eq_2] at hF
      refine g_iload 19 C dX8_next_17 rfl rfl ?_
      refine g_aload_n 20 C dX8_next_19 rfl rfl rfl ?_
      refine g_get 23 C (own := RX8) (C1 := RX8) (T := TX8) 0 8 (.ref (ad 1)) kiX8_next_X8 kfX8_next_13 rfl dX8_next_20 rfl rfl rfl (by decide) rfl ?_
      refine g_iconst 24 C 1 dX8_next_23 rfl (by decide) ?_
      refine g_ialdc 25 C 1 (1) (σ 1 1) dX8_next_24 rfl rfl (by decide) (by decide) rfl ?_
      refine g_icmp_ge 28 122 C dX8_next_25 (by decide) rfl hF (fun hF => ?_) (fun hF => ?_)
      · refine g_iload_n 123 C dX8_next_122 rfl rfl rfl ?_
        refine g_iload_n 124 C dX8_next_123 rfl rfl rfl ?_
        refine g_icmp_ne 127 129 C dX8_next_124 (by decide) rfl hF (fun hF => ?_) (fun hF => ?_)
        · refine g_iinc 132 C 2 (z2 + 1) [(2, .int (z2 + 1)), (0, .ref (ad 0)), (1, .int x1), (3, .int z3), (4, .int z4)] dX8_next_129 rfl rfl rfl (by decide) rfl ?_
          refine g_goto 2 C dX8_next_132 (by decide) ?_
          refine g_lv (lv2 := [(0, .ref (ad 0)), (1, .int x1), (2, .int (z2 + 1))]) [1, 2, 0] rfl ?_
          exact hκ2 (z2 + 1) hF
        · refine g_iload_n 128 C dX8_next_127 rfl rfl rfl ?_
          have e1 := sg_someE hF
          exact g_iret C hr rfl hQ hsz dX8_next_128 e1.symm rfl
      · refine g_aload_n 29 C dX8_next_28 rfl rfl rfl ?_
        refine g_get 32 C (own := RX8) (C1 := RX8) (T := TX8) 0 8 (.ref (ad 1)) kiX8_next_X8 kfX8_next_13 rfl dX8_next_29 rfl rfl rfl (by decide) rfl ?_
        refine g_iload_n 33 C dX8_next_32 rfl rfl rfl ?_
        refine g_iconst 34 C 2 dX8_next_33 rfl (by decide) ?_
        obtain ⟨r1, q2, hF⟩ := sg_bndE hF
        refine g_callSi 37 C (w2 := (ww_X8 Y ad σ)) (As := [.int z2, .int 2]) (st := [.ref (ad 1)]) (n0 := 2) [] [0, 1, 2, 3, 4, 5, 6, 7, 8, 9, 10, 11, 12] [0, 1, 2, 3, 4, 5, 6, 7, 8, 9, 10, 11, 12] (c_X8_in l hZ (ad := ad) (σ := σ) q2) gX8_next_X8_in ⟨by decide +kernel, by decide +kernel, rfl⟩ rfl ⟨Nat.le_of_ble_eq_true rfl, Nat.le_of_ble_eq_true rfl⟩ ⟨rfl, rfl, rfl, by decide, rfl, rfl⟩ rfl rfl (Nat.le_of_ble_eq_true rfl) ⟨Nat.le_refl _, Nat.le_refl _⟩ dX8_next_34 rfl rfl ?_
        obtain ⟨h3, hF⟩ := sg_grdE hF
        refine g_ialdc 38 C 1 (r1.toNatClampNeg) (σ 1 r1.toNatClampNeg) dX8_next_37 rfl rfl rfl h3 rfl ?_
        refine g_aload_n 39 C dX8_next_38 rfl rfl rfl ?_
        refine g_get 42 C (own := RX8) (C1 := RX8) (T := TX8) 0 8 (.ref (ad 1)) kiX8_next_X8 kfX8_next_13 rfl dX8_next_39 rfl rfl rfl (by decide) rfl ?_
        refine g_iload 44 C dX8_next_42 rfl rfl ?_
        refine g_iconst 45 C 2 dX8_next_44 rfl (by decide) ?_
        obtain ⟨r4, q5, hF⟩ := sg_bndE hF
        refine g_callSi 48 C (w2 := (ww_X8 Y ad σ)) (As := [.int z4, .int 2]) (st := [.ref (ad 1), .int (σ 1 r1.toNatClampNeg)]) (n0 := 2) [] [0, 1, 2, 3, 4, 5, 6, 7, 8, 9, 10, 11, 12] [0, 1, 2, 3, 4, 5, 6, 7, 8, 9, 10, 11, 12] (c_X8_in l hZ (ad := ad) (σ := σ) q5) gX8_next_X8_in ⟨by decide +kernel, by decide +kernel, rfl⟩ rfl ⟨Nat.le_of_ble_eq_true rfl, Nat.le_of_ble_eq_true rfl⟩ ⟨rfl, rfl, rfl, by decide, rfl, rfl⟩ rfl rfl (Nat.le_of_ble_eq_true rfl) ⟨Nat.le_refl _, Nat.le_refl _⟩ dX8_next_45 rfl rfl ?_
        obtain ⟨h6, hF⟩ := sg_grdE hF
        refine g_ialdc 49 C 1 (r4.toNatClampNeg) (σ 1 r4.toNatClampNeg) dX8_next_48 rfl rfl rfl h6 rfl ?_
        refine g_isub 50 C dX8_next_49 rfl ?_
        obtain ⟨y7, ey7, hF⟩ := sg_letE hF
        refine g_top ey7 ?_
        refine g_istore 52 C [(5, .int y7), (0, .ref (ad 0)), (1, .int x1), (2, .int z2), (3, .int z3), (4, .int z4)] dX8_next_50 rfl (by decide) rfl ?_
        refine g_iload 54 C dX8_next_52 rfl rfl ?_
        refine g_if_eq 57 62 C dX8_next_54 (by decide) rfl hF (fun hF => ?_) (fun hF => ?_)
        · refine g_aload_n 63 C dX8_next_62 rfl rfl rfl ?_
          refine g_get 66 C (own := RX8) (C1 := RX8) (T := TX8) 0 8 (.ref (ad 1)) kiX8_next_X8 kfX8_next_13 rfl dX8_next_63 rfl rfl rfl (by decide) rfl ?_
          refine g_iload 68 C dX8_next_66 rfl rfl ?_
          refine g_iconst 69 C 1 dX8_next_68 rfl (by decide) ?_
          obtain ⟨r8, q9, hF⟩ := sg_bndE hF
          refine g_callSi 72 C (w2 := (ww_X8 Y ad σ)) (As := [.int z4, .int 1]) (st := [.ref (ad 1)]) (n0 := 2) [] [0, 1, 2, 3, 4, 5, 6, 7, 8, 9, 10, 11, 12] [0, 1, 2, 3, 4, 5, 6, 7, 8, 9, 10, 11, 12] (c_X8_in l hZ (ad := ad) (σ := σ) q9) gX8_next_X8_in ⟨by decide +kernel, by decide +kernel, rfl⟩ rfl ⟨Nat.le_of_ble_eq_true rfl, Nat.le_of_ble_eq_true rfl⟩ ⟨rfl, rfl, rfl, by decide, rfl, rfl⟩ rfl rfl (Nat.le_of_ble_eq_true rfl) ⟨Nat.le_refl _, Nat.le_refl _⟩ dX8_next_69 rfl rfl ?_
          obtain ⟨h10, hF⟩ := sg_grdE hF
          refine g_ialdc 73 C 1 (r8.toNatClampNeg) (σ 1 r8.toNatClampNeg) dX8_next_72 rfl rfl rfl h10 rfl ?_
          refine g_aload_n 74 C dX8_next_73 rfl rfl rfl ?_
          refine g_get 77 C (own := RX8) (C1 := RX8) (T := TX8) 0 8 (.ref (ad 1)) kiX8_next_X8 kfX8_next_13 rfl dX8_next_74 rfl rfl rfl (by decide) rfl ?_
          refine g_iload_n 78 C dX8_next_77 rfl rfl rfl ?_
          refine g_iconst 79 C 1 dX8_next_78 rfl (by decide) ?_
          obtain ⟨r11, q12, hF⟩ := sg_bndE hF
          refine g_callSi 82 C (w2 := (ww_X8 Y ad σ)) (As := [.int z2, .int 1]) (st := [.ref (ad 1), .int (σ 1 r8.toNatClampNeg)]) (n0 := 2) [] [0, 1, 2, 3, 4, 5, 6, 7, 8, 9, 10, 11, 12] [0, 1, 2, 3, 4, 5, 6, 7, 8, 9, 10, 11, 12] (c_X8_in l hZ (ad := ad) (σ := σ) q12) gX8_next_X8_in ⟨by decide +kernel, by decide +kernel, rfl⟩ rfl ⟨Nat.le_of_ble_eq_true rfl, Nat.le_of_ble_eq_true rfl⟩ ⟨rfl, rfl, rfl, by decide, rfl, rfl⟩ rfl rfl (Nat.le_of_ble_eq_true rfl) ⟨Nat.le_refl _, Nat.le_refl _⟩ dX8_next_79 rfl rfl ?_
          obtain ⟨h13, hF⟩ := sg_grdE hF
          refine g_ialdc 83 C 1 (r11.toNatClampNeg) (σ 1 r11.toNatClampNeg) dX8_next_82 rfl rfl rfl h13 rfl ?_
          refine g_isub 84 C dX8_next_83 rfl ?_
          refine g_lv (lv2 := [(0, .ref (ad 0)), (1, .int x1), (2, .int z2), (3, .int z3), (4, .int z4)]) [1, 2, 3, 4, 5] rfl ?_
          exact K84 κ2 hκ2 (fun z2' z3' z4' => f_X8_next_L17 x1 σ κ2 nz z2' z3' z4') ih z2 z3 z4 ((σ 1 r8.toNatClampNeg) - (σ 1 r11.toNatClampNeg)) hF
        · refine g_iload 59 C dX8_next_57 rfl rfl ?_
          refine g_goto 84 C dX8_next_59 (by decide) ?_
          refine g_lv (lv2 := [(0, .ref (ad 0)), (1, .int x1), (2, .int z2), (3, .int z3), (4, .int z4)]) [1, 2, 3, 4, 5] rfl ?_
          exact K84 κ2 hκ2 (fun z2' z3' z4' => f_X8_next_L17 x1 σ κ2 nz z2' z3' z4') ih z2 z3 z4 y7 hF
  have K2 : ∀ (nz : Nat), ∀ (z2 : Int32), f_X8_next_L2 x1 σ nz z2 = some r → sg_G p l e ({ frames := 1, cells := 0, slots := 0, locals := 21 } : Room) s m args below meth c D (va_A (ww_X8 Y ad σ) s.heap.size) 6 0 0 Q 2 [(0, .ref (ad 0)), (1, .int x1), (2, .int z2)] [] (ww_X8 Y ad σ) := by
    intro nz
    induction nz with
    | zero =>
      intro z2 hF
      rw [f_X8_next_L2.eq_1] at hF
      exact nomatch hF
    | succ nz ih =>
      intro z2 hF
      rw [f_X8_next_L2.eq_2] at hF
      refine g_iload_n 3 C dX8_next_2 rfl rfl rfl ?_
      refine g_aload_n 4 C dX8_next_3 rfl rfl rfl ?_
      refine g_get 7 C (own := RX8) (C1 := RX8) (T := TX8) 0 8 (.ref (ad 1)) kiX8_next_X8 kfX8_next_13 rfl dX8_next_4 rfl rfl rfl (by decide) rfl ?_
      refine g_iconst 8 C 1 dX8_next_7 rfl (by decide) ?_
      refine g_ialdc 9 C 1 (1) (σ 1 1) dX8_next_8 rfl rfl (by decide) (by decide) rfl ?_
      refine g_icmp_ge 12 135 C dX8_next_9 (by decide) rfl hF (fun hF => ?_) (fun hF => ?_)
      · refine g_iconst 136 C (-1) dX8_next_135 rfl (by decide) ?_
        have e1 := sg_someE hF
        exact g_iret C hr rfl hQ hsz dX8_next_136 e1.symm rfl
      · refine g_iconst 13 C 0 dX8_next_12 rfl (by decide) ?_
        refine g_istore_n 14 C [(3, .int 0), (0, .ref (ad 0)), (1, .int x1), (2, .int z2)] dX8_next_13 rfl rfl (by decide) rfl ?_
        refine g_iconst 15 C 0 dX8_next_14 rfl (by decide) ?_
        refine g_istore 17 C [(4, .int 0), (3, .int 0), (0, .ref (ad 0)), (1, .int x1), (2, .int z2)] dX8_next_15 rfl (by decide) rfl ?_
        refine g_lv (lv2 := [(0, .ref (ad 0)), (1, .int x1), (2, .int z2), (3, .int 0), (4, .int 0)]) [2, 3, 4, 1, 0] rfl ?_
        exact K17 (fun z2' => f_X8_next_L2 x1 σ nz z2') ih 1000 z2 0 0 hF
  rw [f_X8_next] at hF
  refine g_iconst 1 C 0 dX8_next_0 rfl (by decide) ?_
  refine g_istore_n 2 C [(2, .int 0), (0, .ref (ad 0)), (1, .int x1)] dX8_next_1 rfl rfl (by decide) rfl ?_
  refine g_lv (lv2 := [(0, .ref (ad 0)), (1, .int x1), (2, .int 0)]) [1, 2, 0] rfl ?_
  exact K2  1000 0 hF
theorem kiX8_all_X8 : ∀ w ∈ u_ws RX8 TX8 27, w ∈ wsX8_all := by decide +kernel
theorem kfX8_all_13 : Cond.fieldLink RX8 13 "WeatherMinistryModel" "v" "[I" ∈ wsX8_all := by decide +kernel
def f_X8_all_L4 (x1 : Int32) (σ : sg_S) : Nat → Int32 → Int32 → Option Int32
  | 0, _, _ => none
  | nz + 1, z2, z3 => (if z3 < 5 then sg_bnd (f_X8_at z3 x1) (fun r1 => sg_grd (sg_in r1 79) (sg_let (z2 + (σ 1 r1.toNatClampNeg)) (fun y4 => f_X8_all_L4 x1 σ nz y4 (z3 + 1)))) else some z2)
def f_X8_all (x1 : Int32) (σ : sg_S) : Option Int32 := f_X8_all_L4 x1 σ 1000 0 0
set_option maxHeartbeats 4000000 in
set_option maxRecDepth 100000 in
theorem c_X8_all (l : Launch) {D : va_G} {Y : Nat → ClassId} {Z : (Nat → Prop) → State → Heap → Prop} (hZ : sg_Zok Z) {ad : Nat → Nat} {σ : sg_S} {x1 : Int32} {r : Int32} (hF : f_X8_all x1 σ = some r) : sg_MI l yX8_all wsX8_all 1 21 D Y Z [.ref (ad 0), .int x1] (ww_X8 Y ad σ) r (ww_X8 Y ad σ) := by
  intro sz
  refine sg_enter (own := RX8) (maxL := 4) (ret := (some .int)) (cc := cX8_all) (by decide +kernel) rfl rfl (Nat.le_of_ble_eq_true rfl) hZ ?_
  intro p e s m args below meth c C hr Q hQ hsz
  refine g_lv (lv2 := [(0, .ref (ad 0)), (1, .int x1)]) [0, 1] rfl ?_
  have K4 : ∀ (nz : Nat), ∀ (z2 : Int32) (z3 : Int32), f_X8_all_L4 x1 σ nz z2 z3 = some r → sg_G p l e ({ frames := 1, cells := 0, slots := 0, locals := 21 } : Room) s m args below meth c D (va_A (ww_X8 Y ad σ) s.heap.size) 4 0 0 Q 4 [(0, .ref (ad 0)), (1, .int x1), (2, .int z2), (3, .int z3)] [] (ww_X8 Y ad σ) := by
    intro nz
    induction nz with
    | zero =>
      intro z2 z3 hF
      rw [f_X8_all_L4.eq_1] at hF
      exact nomatch hF
    | succ nz ih =>
      intro z2 z3 hF
      rw [f_X8_all_L4.eq_2] at hF
      refine g_iload_n 5 C dX8_all_4 rfl rfl rfl ?_
      refine g_iconst 6 C 5 dX8_all_5 rfl (by decide) ?_
      refine g_icmp_ge 9 28 C dX8_all_6 (by decide) rfl hF (fun hF => ?_) (fun hF => ?_)
      · refine g_iload_n 29 C dX8_all_28 rfl rfl rfl ?_
        have e1 := sg_someE hF
        exact g_iret C hr rfl hQ hsz dX8_all_29 e1.symm rfl
      · refine g_iload_n 10 C dX8_all_9 rfl rfl rfl ?_
        refine g_aload_n 11 C dX8_all_10 rfl rfl rfl ?_
        refine g_get 14 C (own := RX8) (C1 := RX8) (T := TX8) 0 8 (.ref (ad 1)) kiX8_all_X8 kfX8_all_13 rfl dX8_all_11 rfl rfl rfl (by decide) rfl ?_
        refine g_iload_n 15 C dX8_all_14 rfl rfl rfl ?_
        refine g_iload_n 16 C dX8_all_15 rfl rfl rfl ?_
        obtain ⟨r1, q2, hF⟩ := sg_bndE hF
        refine g_callSi 19 C (w2 := (ww_X8 Y ad σ)) (As := [.int z3, .int x1]) (st := [.ref (ad 1), .int z2]) (n0 := 2) [] [0, 1, 2, 3, 4, 5, 6, 7, 8, 9, 10, 11, 12] [0, 1, 2, 3, 4, 5, 6, 7, 8, 9, 10, 11, 12] (c_X8_at l hZ (ad := ad) (σ := σ) q2) gX8_all_X8_at ⟨by decide +kernel, by decide +kernel, rfl⟩ rfl ⟨Nat.le_of_ble_eq_true rfl, Nat.le_of_ble_eq_true rfl⟩ ⟨rfl, rfl, rfl, by decide, rfl, rfl⟩ rfl rfl (Nat.le_of_ble_eq_true rfl) ⟨Nat.le_refl _, Nat.le_refl _⟩ dX8_all_16 rfl rfl ?_
        obtain ⟨h3, hF⟩ := sg_grdE hF
        refine g_ialdc 20 C 1 (r1.toNatClampNeg) (σ 1 r1.toNatClampNeg) dX8_all_19 rfl rfl rfl h3 rfl ?_
        refine g_iadd 21 C dX8_all_20 rfl ?_
        obtain ⟨y4, ey4, hF⟩ := sg_letE hF
        refine g_top ey4 ?_
        refine g_istore_n 22 C [(2, .int y4), (0, .ref (ad 0)), (1, .int x1), (3, .int z3)] dX8_all_21 rfl rfl (by decide) rfl ?_
        refine g_iinc 25 C 3 (z3 + 1) [(3, .int (z3 + 1)), (2, .int y4), (0, .ref (ad 0)), (1, .int x1)] dX8_all_22 rfl rfl rfl (by decide) rfl ?_
        refine g_goto 4 C dX8_all_25 (by decide) ?_
        refine g_lv (lv2 := [(0, .ref (ad 0)), (1, .int x1), (2, .int y4), (3, .int (z3 + 1))]) [2, 3, 1, 0] rfl ?_
        exact ih y4 (z3 + 1) hF
  rw [f_X8_all] at hF
  refine g_iconst 1 C 0 dX8_all_0 rfl (by decide) ?_
  refine g_istore_n 2 C [(2, .int 0), (0, .ref (ad 0)), (1, .int x1)] dX8_all_1 rfl rfl (by decide) rfl ?_
  refine g_iconst 3 C 0 dX8_all_2 rfl (by decide) ?_
  refine g_istore_n 4 C [(3, .int 0), (2, .int 0), (0, .ref (ad 0)), (1, .int x1)] dX8_all_3 rfl rfl (by decide) rfl ?_
  refine g_lv (lv2 := [(0, .ref (ad 0)), (1, .int x1), (2, .int 0), (3, .int 0)]) [2, 3, 1, 0] rfl ?_
  exact K4  1000 0 0 hF
theorem kiX8_isCounted_X8 : ∀ w ∈ u_ws RX8 TX8 27, w ∈ wsX8_isCounted := by decide +kernel
theorem kfX8_isCounted_13 : Cond.fieldLink RX8 13 "WeatherMinistryModel" "v" "[I" ∈ wsX8_isCounted := by decide +kernel
def f_X8_isCounted  (σ : sg_S) : Option Int32 := sg_bnd (f_X8_all 0 σ) (fun r1 => (if 50 + (σ 1 2) = ((r1 + (σ 1 3)) + (σ 1 4)) + (4 * (σ 1 9)) then some 1 else some 0))
set_option maxHeartbeats 4000000 in
set_option maxRecDepth 100000 in
theorem c_X8_isCounted (l : Launch) {D : va_G} {Y : Nat → ClassId} {Z : (Nat → Prop) → State → Heap → Prop} (hZ : sg_Zok Z) {ad : Nat → Nat} {σ : sg_S} {r : Int32} (hF : f_X8_isCounted  σ = some r) : sg_MI l yX8_isCounted wsX8_isCounted 2 44 D Y Z [.ref (ad 0)] (ww_X8 Y ad σ) r (ww_X8 Y ad σ) := by
  intro sz
  refine sg_enter (own := RX8) (maxL := 1) (ret := (some .boolean)) (cc := cX8_isCounted) (by decide +kernel) rfl rfl (Nat.le_of_ble_eq_true rfl) hZ ?_
  intro p e s m args below meth c C hr Q hQ hsz
  refine g_lv (lv2 := [(0, .ref (ad 0))]) [0] rfl ?_
  rw [f_X8_isCounted] at hF
  refine g_bipush 2 C 50 dX8_isCounted_0 rfl (by decide) ?_
  refine g_aload_n 3 C dX8_isCounted_2 rfl rfl rfl ?_
  refine g_get 6 C (own := RX8) (C1 := RX8) (T := TX8) 0 8 (.ref (ad 1)) kiX8_isCounted_X8 kfX8_isCounted_13 rfl dX8_isCounted_3 rfl rfl rfl (by decide) rfl ?_
  refine g_iconst 7 C 2 dX8_isCounted_6 rfl (by decide) ?_
  refine g_ialdc 8 C 1 (2) (σ 1 2) dX8_isCounted_7 rfl rfl (by decide) (by decide) rfl ?_
  refine g_iadd 9 C dX8_isCounted_8 rfl ?_
  refine g_aload_n 10 C dX8_isCounted_9 rfl rfl rfl ?_
  refine g_iconst 11 C 0 dX8_isCounted_10 rfl (by decide) ?_
  obtain ⟨r1, q2, hF⟩ := sg_bndE hF
  refine g_callVi 14 C (w2 := (ww_X8 Y ad σ)) (As := [.int 0]) (st := [.int (50 + (σ 1 2))]) (n0 := 1) (ci := 9) (q0 := 0) [0, 1, 2, 3, 4, 5, 6, 7, 8, 9, 10, 11, 12] [] [0, 1, 2, 3, 4, 5, 6, 7, 8, 9, 10, 11, 12] (c_X8_all l hZ (ad := ad) q2) gX8_isCounted_X8_all ⟨rfl, by decide +kernel, by decide +kernel, rfl⟩ rfl ⟨Nat.le_of_ble_eq_true rfl, Nat.le_of_ble_eq_true rfl⟩ rfl rfl ⟨rfl, rfl, rfl, by decide, rfl, rfl⟩ rfl rfl (Nat.le_of_ble_eq_true rfl) ⟨Nat.le_refl _, Nat.le_refl _⟩ dX8_isCounted_11 rfl rfl ?_
  refine g_aload_n 15 C dX8_isCounted_14 rfl rfl rfl ?_
  refine g_get 18 C (own := RX8) (C1 := RX8) (T := TX8) 0 8 (.ref (ad 1)) kiX8_isCounted_X8 kfX8_isCounted_13 rfl dX8_isCounted_15 rfl rfl rfl (by decide) rfl ?_
  refine g_iconst 19 C 3 dX8_isCounted_18 rfl (by decide) ?_
  refine g_ialdc 20 C 1 (3) (σ 1 3) dX8_isCounted_19 rfl rfl (by decide) (by decide) rfl ?_
  refine g_iadd 21 C dX8_isCounted_20 rfl ?_
  refine g_aload_n 22 C dX8_isCounted_21 rfl rfl rfl ?_
  refine g_get 25 C (own := RX8) (C1 := RX8) (T := TX8) 0 8 (.ref (ad 1)) kiX8_isCounted_X8 kfX8_isCounted_13 rfl dX8_isCounted_22 rfl rfl rfl (by decide) rfl ?_
  refine g_iconst 26 C 4 dX8_isCounted_25 rfl (by decide) ?_
  refine g_ialdc 27 C 1 (4) (σ 1 4) dX8_isCounted_26 rfl rfl (by decide) (by decide) rfl ?_
  refine g_iadd 28 C dX8_isCounted_27 rfl ?_
  refine g_iconst 29 C 4 dX8_isCounted_28 rfl (by decide) ?_
  refine g_aload_n 30 C dX8_isCounted_29 rfl rfl rfl ?_
  refine g_get 33 C (own := RX8) (C1 := RX8) (T := TX8) 0 8 (.ref (ad 1)) kiX8_isCounted_X8 kfX8_isCounted_13 rfl dX8_isCounted_30 rfl rfl rfl (by decide) rfl ?_
  refine g_bipush 35 C 9 dX8_isCounted_33 rfl (by decide) ?_
  refine g_ialdc 36 C 1 (9) (σ 1 9) dX8_isCounted_35 rfl rfl (by decide) (by decide) rfl ?_
  refine g_imul 37 C dX8_isCounted_36 rfl ?_
  refine g_iadd 38 C dX8_isCounted_37 rfl ?_
  refine g_icmp_ne 41 45 C dX8_isCounted_38 (by decide) rfl hF (fun hF => ?_) (fun hF => ?_)
  · refine g_iconst 46 C 0 dX8_isCounted_45 rfl (by decide) ?_
    have e1 := sg_someE hF
    exact g_iret C hr rfl hQ hsz dX8_isCounted_46 e1.symm rfl
  · refine g_iconst 42 C 1 dX8_isCounted_41 rfl (by decide) ?_
    refine g_goto 46 C dX8_isCounted_42 (by decide) ?_
    have e1 := sg_someE hF
    exact g_iret C hr rfl hQ hsz dX8_isCounted_46 e1.symm rfl
theorem kiX8_account_X8 : ∀ w ∈ u_ws RX8 TX8 27, w ∈ wsX8_account := by decide +kernel
theorem kfX8_account_13 : Cond.fieldLink RX8 13 "WeatherMinistryModel" "v" "[I" ∈ wsX8_account := by decide +kernel
theorem kfX8_account_172 : Cond.fieldLink RX8 172 "WeatherMinistryModel" "textN" "I" ∈ wsX8_account := by decide +kernel
theorem kfX8_account_74 : Cond.fieldLink RX8 74 "WeatherMinistryModel" "changes" "I" ∈ wsX8_account := by decide +kernel
def f_X8_account (x1 : Int32) (σ : sg_S) : Option Int32 := (if x1 = 0 then sg_grd (sg_in x1 79) (some (σ 1 x1.toNatClampNeg)) else (if x1 = 1 then sg_grd (sg_in x1 79) (some (σ 1 x1.toNatClampNeg)) else (if x1 = 2 then sg_bnd (f_X8_allTreaties  σ) (fun r5 => some r5) else (if x1 = 3 then sg_bnd (f_X8_all 0 σ) (fun r8 => some r8) else (if x1 = 4 then sg_bnd (f_X8_all 1 σ) (fun r11 => some r11) else (if x1 = 5 then sg_bnd (f_X8_all 3 σ) (fun r14 => some r14) else (if x1 = 6 then sg_bnd (f_X8_all 2 σ) (fun r17 => some r17) else (if x1 = 7 then sg_grd (sg_in (x1 - 5) 79) (some (σ 1 (x1 - 5).toNatClampNeg)) else (if x1 = 8 then sg_grd (sg_in (x1 - 5) 79) (some (σ 1 (x1 - 5).toNatClampNeg)) else (if x1 = 9 then sg_grd (sg_in (x1 - 5) 79) (some (σ 1 (x1 - 5).toNatClampNeg)) else (if x1 = 10 then sg_grd (sg_in (x1 - 5) 79) (some (σ 1 (x1 - 5).toNatClampNeg)) else (if x1 = 11 then sg_grd (sg_in (x1 - 5) 79) (some (σ 1 (x1 - 5).toNatClampNeg)) else (if x1 = 12 then sg_grd (sg_in (x1 - 5) 79) (some (σ 1 (x1 - 5).toNatClampNeg)) else (if x1 = 13 then sg_grd (sg_in (x1 - 5) 79) (some (σ 1 (x1 - 5).toNatClampNeg)) else (if x1 = 14 then some (σ 0 21) else (if x1 = 15 then some (σ 0 1) else some ((-2))))))))))))))))))
set_option maxHeartbeats 4000000 in
set_option maxRecDepth 100000 in
theorem c_X8_account (l : Launch) {D : va_G} {Y : Nat → ClassId} {Z : (Nat → Prop) → State → Heap → Prop} (hZ : sg_Zok Z) {ad : Nat → Nat} {σ : sg_S} {x1 : Int32} {r : Int32} (hF : f_X8_account x1 σ = some r) : sg_MI l yX8_account wsX8_account 2 45 D Y Z [.ref (ad 0), .int x1] (ww_X8 Y ad σ) r (ww_X8 Y ad σ) := by
  intro sz
  refine sg_enter (own := RX8) (maxL := 2) (ret := (some .int)) (cc := cX8_account) (by decide +kernel) rfl rfl (Nat.le_of_ble_eq_true rfl) hZ ?_
  intro p e s m args below meth c C hr Q hQ hsz
  refine g_lv (lv2 := [(0, .ref (ad 0)), (1, .int x1)]) [0, 1] rfl ?_
  rw [f_X8_account] at hF
  refine g_iload_n 1 C dX8_account_0 rfl rfl rfl ?_
  rcases sg_iteE hF with ⟨c2, hF⟩ | ⟨c2, hF⟩
  · refine g_tsin (off := 79) C 80 0 dX8_account_1 c2 (by decide) (by decide) (by decide) (by decide) ?_
    refine g_aload_n 81 C dX8_account_80 rfl rfl rfl ?_
    refine g_get 84 C (own := RX8) (C1 := RX8) (T := TX8) 0 8 (.ref (ad 1)) kiX8_account_X8 kfX8_account_13 rfl dX8_account_81 rfl rfl rfl (by decide) rfl ?_
    refine g_iload_n 85 C dX8_account_84 rfl rfl rfl ?_
    obtain ⟨h1, hF⟩ := sg_grdE hF
    refine g_ialdc 86 C 1 (x1.toNatClampNeg) (σ 1 x1.toNatClampNeg) dX8_account_85 rfl rfl rfl h1 rfl ?_
    have e1 := sg_someE hF
    exact g_iret C hr rfl hQ hsz dX8_account_86 e1.symm rfl
  rcases sg_iteE hF with ⟨c4, hF⟩ | ⟨c4, hF⟩
  · refine g_tsin (off := 79) C 80 1 dX8_account_1 c4 (by decide) (by decide) (by decide) (by decide) ?_
    refine g_aload_n 81 C dX8_account_80 rfl rfl rfl ?_
    refine g_get 84 C (own := RX8) (C1 := RX8) (T := TX8) 0 8 (.ref (ad 1)) kiX8_account_X8 kfX8_account_13 rfl dX8_account_81 rfl rfl rfl (by decide) rfl ?_
    refine g_iload_n 85 C dX8_account_84 rfl rfl rfl ?_
    obtain ⟨h3, hF⟩ := sg_grdE hF
    refine g_ialdc 86 C 1 (x1.toNatClampNeg) (σ 1 x1.toNatClampNeg) dX8_account_85 rfl rfl rfl h3 rfl ?_
    have e1 := sg_someE hF
    exact g_iret C hr rfl hQ hsz dX8_account_86 e1.symm rfl
  rcases sg_iteE hF with ⟨c7, hF⟩ | ⟨c7, hF⟩
  · refine g_tsin (off := 86) C 87 2 dX8_account_1 c7 (by decide) (by decide) (by decide) (by decide) ?_
    refine g_aload_n 88 C dX8_account_87 rfl rfl rfl ?_
    obtain ⟨r5, q6, hF⟩ := sg_bndE hF
    refine g_callVi 91 C (w2 := (ww_X8 Y ad σ)) (As := []) (st := []) (n0 := 0) (ci := 9) (q0 := 0) [0, 1, 2, 3, 4, 5, 6, 7, 8, 9, 10, 11, 12] [] [0, 1, 2, 3, 4, 5, 6, 7, 8, 9, 10, 11, 12] (c_X8_allTreaties l hZ (ad := ad) q6) gX8_account_X8_allTreaties ⟨rfl, by decide +kernel, by decide +kernel, rfl⟩ rfl ⟨Nat.le_of_ble_eq_true rfl, Nat.le_of_ble_eq_true rfl⟩ rfl rfl ⟨rfl, rfl, rfl, by decide, rfl, rfl⟩ rfl rfl (Nat.le_of_ble_eq_true rfl) ⟨Nat.le_refl _, Nat.le_refl _⟩ dX8_account_88 rfl rfl ?_
    have e1 := sg_someE hF
    exact g_iret C hr rfl hQ hsz dX8_account_91 e1.symm rfl
  rcases sg_iteE hF with ⟨c10, hF⟩ | ⟨c10, hF⟩
  · refine g_tsin (off := 91) C 92 3 dX8_account_1 c10 (by decide) (by decide) (by decide) (by decide) ?_
    refine g_aload_n 93 C dX8_account_92 rfl rfl rfl ?_
    refine g_iconst 94 C 0 dX8_account_93 rfl (by decide) ?_
    obtain ⟨r8, q9, hF⟩ := sg_bndE hF
    refine g_callVi 97 C (w2 := (ww_X8 Y ad σ)) (As := [.int 0]) (st := []) (n0 := 1) (ci := 9) (q0 := 0) [0, 1, 2, 3, 4, 5, 6, 7, 8, 9, 10, 11, 12] [] [0, 1, 2, 3, 4, 5, 6, 7, 8, 9, 10, 11, 12] (c_X8_all l hZ (ad := ad) q9) gX8_account_X8_all ⟨rfl, by decide +kernel, by decide +kernel, rfl⟩ rfl ⟨Nat.le_of_ble_eq_true rfl, Nat.le_of_ble_eq_true rfl⟩ rfl rfl ⟨rfl, rfl, rfl, by decide, rfl, rfl⟩ rfl rfl (Nat.le_of_ble_eq_true rfl) ⟨Nat.le_refl _, Nat.le_refl _⟩ dX8_account_94 rfl rfl ?_
    have e1 := sg_someE hF
    exact g_iret C hr rfl hQ hsz dX8_account_97 e1.symm rfl
  rcases sg_iteE hF with ⟨c13, hF⟩ | ⟨c13, hF⟩
  · refine g_tsin (off := 97) C 98 4 dX8_account_1 c13 (by decide) (by decide) (by decide) (by decide) ?_
    refine g_aload_n 99 C dX8_account_98 rfl rfl rfl ?_
    refine g_iconst 100 C 1 dX8_account_99 rfl (by decide) ?_
    obtain ⟨r11, q12, hF⟩ := sg_bndE hF
    refine g_callVi 103 C (w2 := (ww_X8 Y ad σ)) (As := [.int 1]) (st := []) (n0 := 1) (ci := 9) (q0 := 0) [0, 1, 2, 3, 4, 5, 6, 7, 8, 9, 10, 11, 12] [] [0, 1, 2, 3, 4, 5, 6, 7, 8, 9, 10, 11, 12] (c_X8_all l hZ (ad := ad) q12) gX8_account_X8_all ⟨rfl, by decide +kernel, by decide +kernel, rfl⟩ rfl ⟨Nat.le_of_ble_eq_true rfl, Nat.le_of_ble_eq_true rfl⟩ rfl rfl ⟨rfl, rfl, rfl, by decide, rfl, rfl⟩ rfl rfl (Nat.le_of_ble_eq_true rfl) ⟨Nat.le_refl _, Nat.le_refl _⟩ dX8_account_100 rfl rfl ?_
    have e1 := sg_someE hF
    exact g_iret C hr rfl hQ hsz dX8_account_103 e1.symm rfl
  rcases sg_iteE hF with ⟨c16, hF⟩ | ⟨c16, hF⟩
  · refine g_tsin (off := 103) C 104 5 dX8_account_1 c16 (by decide) (by decide) (by decide) (by decide) ?_
    refine g_aload_n 105 C dX8_account_104 rfl rfl rfl ?_
    refine g_iconst 106 C 3 dX8_account_105 rfl (by decide) ?_
    obtain ⟨r14, q15, hF⟩ := sg_bndE hF
    refine g_callVi 109 C (w2 := (ww_X8 Y ad σ)) (As := [.int 3]) (st := []) (n0 := 1) (ci := 9) (q0 := 0) [0, 1, 2, 3, 4, 5, 6, 7, 8, 9, 10, 11, 12] [] [0, 1, 2, 3, 4, 5, 6, 7, 8, 9, 10, 11, 12] (c_X8_all l hZ (ad := ad) q15) gX8_account_X8_all ⟨rfl, by decide +kernel, by decide +kernel, rfl⟩ rfl ⟨Nat.le_of_ble_eq_true rfl, Nat.le_of_ble_eq_true rfl⟩ rfl rfl ⟨rfl, rfl, rfl, by decide, rfl, rfl⟩ rfl rfl (Nat.le_of_ble_eq_true rfl) ⟨Nat.le_refl _, Nat.le_refl _⟩ dX8_account_106 rfl rfl ?_
    have e1 := sg_someE hF
    exact g_iret C hr rfl hQ hsz dX8_account_109 e1.symm rfl
  rcases sg_iteE hF with ⟨c19, hF⟩ | ⟨c19, hF⟩
  · refine g_tsin (off := 109) C 110 6 dX8_account_1 c19 (by decide) (by decide) (by decide) (by decide) ?_
    refine g_aload_n 111 C dX8_account_110 rfl rfl rfl ?_
    refine g_iconst 112 C 2 dX8_account_111 rfl (by decide) ?_
    obtain ⟨r17, q18, hF⟩ := sg_bndE hF
    refine g_callVi 115 C (w2 := (ww_X8 Y ad σ)) (As := [.int 2]) (st := []) (n0 := 1) (ci := 9) (q0 := 0) [0, 1, 2, 3, 4, 5, 6, 7, 8, 9, 10, 11, 12] [] [0, 1, 2, 3, 4, 5, 6, 7, 8, 9, 10, 11, 12] (c_X8_all l hZ (ad := ad) q18) gX8_account_X8_all ⟨rfl, by decide +kernel, by decide +kernel, rfl⟩ rfl ⟨Nat.le_of_ble_eq_true rfl, Nat.le_of_ble_eq_true rfl⟩ rfl rfl ⟨rfl, rfl, rfl, by decide, rfl, rfl⟩ rfl rfl (Nat.le_of_ble_eq_true rfl) ⟨Nat.le_refl _, Nat.le_refl _⟩ dX8_account_112 rfl rfl ?_
    have e1 := sg_someE hF
    exact g_iret C hr rfl hQ hsz dX8_account_115 e1.symm rfl
  rcases sg_iteE hF with ⟨c21, hF⟩ | ⟨c21, hF⟩
  · refine g_tsin (off := 115) C 116 7 dX8_account_1 c21 (by decide) (by decide) (by decide) (by decide) ?_
    refine g_aload_n 117 C dX8_account_116 rfl rfl rfl ?_
    refine g_get 120 C (own := RX8) (C1 := RX8) (T := TX8) 0 8 (.ref (ad 1)) kiX8_account_X8 kfX8_account_13 rfl dX8_account_117 rfl rfl rfl (by decide) rfl ?_
    refine g_iload_n 121 C dX8_account_120 rfl rfl rfl ?_
    refine g_iconst 122 C 5 dX8_account_121 rfl (by decide) ?_
    refine g_isub 123 C dX8_account_122 rfl ?_
    obtain ⟨h20, hF⟩ := sg_grdE hF
    refine g_ialdc 124 C 1 ((x1 - 5).toNatClampNeg) (σ 1 (x1 - 5).toNatClampNeg) dX8_account_123 rfl rfl rfl h20 rfl ?_
    have e1 := sg_someE hF
    exact g_iret C hr rfl hQ hsz dX8_account_124 e1.symm rfl
  rcases sg_iteE hF with ⟨c23, hF⟩ | ⟨c23, hF⟩
  · refine g_tsin (off := 115) C 116 8 dX8_account_1 c23 (by decide) (by decide) (by decide) (by decide) ?_
    refine g_aload_n 117 C dX8_account_116 rfl rfl rfl ?_
    refine g_get 120 C (own := RX8) (C1 := RX8) (T := TX8) 0 8 (.ref (ad 1)) kiX8_account_X8 kfX8_account_13 rfl dX8_account_117 rfl rfl rfl (by decide) rfl ?_
    refine g_iload_n 121 C dX8_account_120 rfl rfl rfl ?_
    refine g_iconst 122 C 5 dX8_account_121 rfl (by decide) ?_
    refine g_isub 123 C dX8_account_122 rfl ?_
    obtain ⟨h22, hF⟩ := sg_grdE hF
    refine g_ialdc 124 C 1 ((x1 - 5).toNatClampNeg) (σ 1 (x1 - 5).toNatClampNeg) dX8_account_123 rfl rfl rfl h22 rfl ?_
    have e1 := sg_someE hF
    exact g_iret C hr rfl hQ hsz dX8_account_124 e1.symm rfl
  rcases sg_iteE hF with ⟨c25, hF⟩ | ⟨c25, hF⟩
  · refine g_tsin (off := 115) C 116 9 dX8_account_1 c25 (by decide) (by decide) (by decide) (by decide) ?_
    refine g_aload_n 117 C dX8_account_116 rfl rfl rfl ?_
    refine g_get 120 C (own := RX8) (C1 := RX8) (T := TX8) 0 8 (.ref (ad 1)) kiX8_account_X8 kfX8_account_13 rfl dX8_account_117 rfl rfl rfl (by decide) rfl ?_
    refine g_iload_n 121 C dX8_account_120 rfl rfl rfl ?_
    refine g_iconst 122 C 5 dX8_account_121 rfl (by decide) ?_
    refine g_isub 123 C dX8_account_122 rfl ?_
    obtain ⟨h24, hF⟩ := sg_grdE hF
    refine g_ialdc 124 C 1 ((x1 - 5).toNatClampNeg) (σ 1 (x1 - 5).toNatClampNeg) dX8_account_123 rfl rfl rfl h24 rfl ?_
    have e1 := sg_someE hF
    exact g_iret C hr rfl hQ hsz dX8_account_124 e1.symm rfl
  rcases sg_iteE hF with ⟨c27, hF⟩ | ⟨c27, hF⟩
  · refine g_tsin (off := 115) C 116 10 dX8_account_1 c27 (by decide) (by decide) (by decide) (by decide) ?_
    refine g_aload_n 117 C dX8_account_116 rfl rfl rfl ?_
    refine g_get 120 C (own := RX8) (C1 := RX8) (T := TX8) 0 8 (.ref (ad 1)) kiX8_account_X8 kfX8_account_13 rfl dX8_account_117 rfl rfl rfl (by decide) rfl ?_
    refine g_iload_n 121 C dX8_account_120 rfl rfl rfl ?_
    refine g_iconst 122 C 5 dX8_account_121 rfl (by decide) ?_
    refine g_isub 123 C dX8_account_122 rfl ?_
    obtain ⟨h26, hF⟩ := sg_grdE hF
    refine g_ialdc 124 C 1 ((x1 - 5).toNatClampNeg) (σ 1 (x1 - 5).toNatClampNeg) dX8_account_123 rfl rfl rfl h26 rfl ?_
    have e1 := sg_someE hF
    exact g_iret C hr rfl hQ hsz dX8_account_124 e1.symm rfl
  rcases sg_iteE hF with ⟨c29, hF⟩ | ⟨c29, hF⟩
  · refine g_tsin (off := 115) C 116 11 dX8_account_1 c29 (by decide) (by decide) (by decide) (by decide) ?_
    refine g_aload_n 117 C dX8_account_116 rfl rfl rfl ?_
    refine g_get 120 C (own := RX8) (C1 := RX8) (T := TX8) 0 8 (.ref (ad 1)) kiX8_account_X8 kfX8_account_13 rfl dX8_account_117 rfl rfl rfl (by decide) rfl ?_
    refine g_iload_n 121 C dX8_account_120 rfl rfl rfl ?_
    refine g_iconst 122 C 5 dX8_account_121 rfl (by decide) ?_
    refine g_isub 123 C dX8_account_122 rfl ?_
    obtain ⟨h28, hF⟩ := sg_grdE hF
    refine g_ialdc 124 C 1 ((x1 - 5).toNatClampNeg) (σ 1 (x1 - 5).toNatClampNeg) dX8_account_123 rfl rfl rfl h28 rfl ?_
    have e1 := sg_someE hF
    exact g_iret C hr rfl hQ hsz dX8_account_124 e1.symm rfl
  rcases sg_iteE hF with ⟨c31, hF⟩ | ⟨c31, hF⟩
  · refine g_tsin (off := 115) C 116 12 dX8_account_1 c31 (by decide) (by decide) (by decide) (by decide) ?_
    refine g_aload_n 117 C dX8_account_116 rfl rfl rfl ?_
    refine g_get 120 C (own := RX8) (C1 := RX8) (T := TX8) 0 8 (.ref (ad 1)) kiX8_account_X8 kfX8_account_13 rfl dX8_account_117 rfl rfl rfl (by decide) rfl ?_
    refine g_iload_n 121 C dX8_account_120 rfl rfl rfl ?_
    refine g_iconst 122 C 5 dX8_account_121 rfl (by decide) ?_
    refine g_isub 123 C dX8_account_122 rfl ?_
    obtain ⟨h30, hF⟩ := sg_grdE hF
    refine g_ialdc 124 C 1 ((x1 - 5).toNatClampNeg) (σ 1 (x1 - 5).toNatClampNeg) dX8_account_123 rfl rfl rfl h30 rfl ?_
    have e1 := sg_someE hF
    exact g_iret C hr rfl hQ hsz dX8_account_124 e1.symm rfl
  rcases sg_iteE hF with ⟨c33, hF⟩ | ⟨c33, hF⟩
  · refine g_tsin (off := 115) C 116 13 dX8_account_1 c33 (by decide) (by decide) (by decide) (by decide) ?_
    refine g_aload_n 117 C dX8_account_116 rfl rfl rfl ?_
    refine g_get 120 C (own := RX8) (C1 := RX8) (T := TX8) 0 8 (.ref (ad 1)) kiX8_account_X8 kfX8_account_13 rfl dX8_account_117 rfl rfl rfl (by decide) rfl ?_
    refine g_iload_n 121 C dX8_account_120 rfl rfl rfl ?_
    refine g_iconst 122 C 5 dX8_account_121 rfl (by decide) ?_
    refine g_isub 123 C dX8_account_122 rfl ?_
    obtain ⟨h32, hF⟩ := sg_grdE hF
    refine g_ialdc 124 C 1 ((x1 - 5).toNatClampNeg) (σ 1 (x1 - 5).toNatClampNeg) dX8_account_123 rfl rfl rfl h32 rfl ?_
    have e1 := sg_someE hF
    exact g_iret C hr rfl hQ hsz dX8_account_124 e1.symm rfl
  rcases sg_iteE hF with ⟨c34, hF⟩ | ⟨c34, hF⟩
  · refine g_tsin (off := 124) C 125 14 dX8_account_1 c34 (by decide) (by decide) (by decide) (by decide) ?_
    refine g_aload_n 126 C dX8_account_125 rfl rfl rfl ?_
    refine g_get 129 C (own := RX8) (C1 := RX8) (T := TX8) 0 21 (.int (σ 0 21)) kiX8_account_X8 kfX8_account_172 rfl dX8_account_126 rfl rfl rfl (by decide) rfl ?_
    have e1 := sg_someE hF
    exact g_iret C hr rfl hQ hsz dX8_account_129 e1.symm rfl
  rcases sg_iteE hF with ⟨c35, hF⟩ | ⟨c35, hF⟩
  · refine g_tsin (off := 129) C 130 15 dX8_account_1 c35 (by decide) (by decide) (by decide) (by decide) ?_
    refine g_aload_n 131 C dX8_account_130 rfl rfl rfl ?_
    refine g_get 134 C (own := RX8) (C1 := RX8) (T := TX8) 0 1 (.int (σ 0 1)) kiX8_account_X8 kfX8_account_74 rfl dX8_account_131 rfl rfl rfl (by decide) rfl ?_
    have e1 := sg_someE hF
    exact g_iret C hr rfl hQ hsz dX8_account_134 e1.symm rfl
  have nc2 : Int32.toInt x1 ≠ 0 := sg_neT c2 (by decide)
  have nc4 : Int32.toInt x1 ≠ 1 := sg_neT c4 (by decide)
  have nc7 : Int32.toInt x1 ≠ 2 := sg_neT c7 (by decide)
  have nc10 : Int32.toInt x1 ≠ 3 := sg_neT c10 (by decide)
  have nc13 : Int32.toInt x1 ≠ 4 := sg_neT c13 (by decide)
  have nc16 : Int32.toInt x1 ≠ 5 := sg_neT c16 (by decide)
  have nc19 : Int32.toInt x1 ≠ 6 := sg_neT c19 (by decide)
  have nc21 : Int32.toInt x1 ≠ 7 := sg_neT c21 (by decide)
  have nc23 : Int32.toInt x1 ≠ 8 := sg_neT c23 (by decide)
  have nc25 : Int32.toInt x1 ≠ 9 := sg_neT c25 (by decide)
  have nc27 : Int32.toInt x1 ≠ 10 := sg_neT c27 (by decide)
  have nc29 : Int32.toInt x1 ≠ 11 := sg_neT c29 (by decide)
  have nc31 : Int32.toInt x1 ≠ 12 := sg_neT c31 (by decide)
  have nc33 : Int32.toInt x1 ≠ 13 := sg_neT c33 (by decide)
  have nc34 : Int32.toInt x1 ≠ 14 := sg_neT c34 (by decide)
  have nc35 : Int32.toInt x1 ≠ 15 := sg_neT c35 (by decide)
  refine g_tsout C 135 dX8_account_1 (by omega) (by decide) ?_
  refine g_bipush 137 C (-2) dX8_account_135 rfl (by decide) ?_
  have e1 := sg_someE hF
  exact g_iret C hr rfl hQ hsz dX8_account_137 e1.symm rfl
