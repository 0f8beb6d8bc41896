theorem kiX8_credits_X8 : ∀ w ∈ u_ws RX8 TX8 27, w ∈ wsX8_credits := by decide +kernel
theorem kfX8_credits_13 : Cond.fieldLink RX8 13 "WeatherMinistryModel" "v" "[I" ∈ wsX8_credits := by decide +kernel
def f_X8_credits (x1 : Int32) (x2 : Int32) (x3 : Int32) (σ : sg_S) : Option (Int32 × sg_S) := sg_bnd (f_X8_isTown x1) (fun r1 => (if r1 = 0 then sg_bnd2 (f_X8_fail (-1) σ) (fun r53 τ51 => some (r53, τ51)) else sg_bnd (f_X8_isIn x2 1 20) (fun r3 => (if r3 = 0 then sg_bnd2 (f_X8_fail (-2) σ) (fun r7 τ5 => some (r7, τ5)) else sg_bnd (f_X8_isIn x3 1 6) (fun r8 => (if r8 = 0 then sg_bnd2 (f_X8_fail (-2) σ) (fun r50 τ48 => some (r50, τ48)) else sg_let (σ 1 1) (fun y10 => sg_bnd (f_X8_at x1 0) (fun r11 => sg_grd (sg_in r11 79) (sg_let (60 - (σ 1 r11.toNatClampNeg)) (fun y14 => sg_bnd (f_X8_at x1 3) (fun r15 => sg_grd (sg_in r15 79) ((if 0 < σ 1 r15.toNatClampNeg then sg_bnd (f_X8_at x1 3) (fun r42 => sg_grd (sg_in r42 79) (sg_bnd2 (f_X8_refuses 2 (σ 1 r42.toNatClampNeg) σ) (fun r47 τ45 => some (r47, τ45)))) else (if y10 = 8 then sg_bnd2 (f_X8_refuses 1 8 σ) (fun r41 τ39 => some (r41, τ39)) else (if y14 < x2 then sg_bnd2 (f_X8_refuses 3 y14 σ) (fun r38 τ36 => some (r38, τ36)) else sg_bnd (f_X8_in y10 0) (fun r18 => sg_grd (sg_in r18 79) (sg_let (sg_up σ 1 (r18.toNatClampNeg) x1) (fun σ21 => sg_bnd (f_X8_in y10 1) (fun r22 => sg_grd (sg_in r22 79) (sg_let (sg_up σ21 1 (r22.toNatClampNeg) x2) (fun σ25 => sg_bnd (f_X8_in y10 2) (fun r26 => sg_grd (sg_in r26 79) (sg_let (sg_up σ25 1 (r26.toNatClampNeg) ((σ25 1 0) + x3)) (fun σ29 => sg_let (sg_up σ29 1 1 ((σ29 1 1) + 1)) (fun σ30 => sg_bnd (f_X8_at x1 0) (fun r31 => sg_grd (sg_in r31 79) (sg_let (sg_up σ30 1 (r31.toNatClampNeg) ((σ30 1 r31.toNatClampNeg) + x2)) (fun σ34 => sg_let (sg_up σ34 1 2 ((σ34 1 2) + x2)) (fun σ35 => some (y10, σ35))))))))))))))))))))))))))))))
set_option maxHeartbeats 4000000 in
set_option maxRecDepth 100000 in
theorem c_X8_credits (l : Launch) {D : va_G} {Y : Nat → ClassId} {Z : (Nat → Prop) → State → Heap → Prop} (hZ : sg_Zok Z) {ad : Nat → Nat} {σ : sg_S} {σ' : sg_S} {x1 x2 x3 : Int32} {r : Int32} (hF : f_X8_credits x1 x2 x3 σ = some (r, σ')) : sg_MI l yX8_credits wsX8_credits 2 43 D Y Z [.ref (ad 0), .int x1, .int x2, .int x3] (ww_X8 Y ad σ) r (ww_X8 Y ad σ') := by
  intro sz
  refine sg_enter (own := RX8) (maxL := 6) (ret := (some .int)) (cc := cX8_credits) (by decide +kernel) rfl rfl (Nat.le_of_ble_eq_true rfl) hZ ?_
  intro p e s m args below meth c C hr Q hQ hsz
  refine g_lv (lv2 := [(0, .ref (ad 0)), (1, .int x1), (2, .int x2), (3, .int x3)]) [0, 1, 2, 3] rfl ?_
  rw [f_X8_credits] at hF
  refine g_iload_n 1 C dX8_credits_0 rfl rfl rfl ?_
  obtain ⟨r1, q2, hF⟩ := sg_bndE hF
  refine g_callSi 4 C (w2 := (ww_X8 Y ad σ)) (As := [.int x1]) (st := []) (n0 := 1) [] [0, 1, 2, 3, 4, 5, 6, 7, 8, 9, 10, 11, 12] [0, 1, 2, 3, 4, 5, 6, 7, 8, 9, 10, 11, 12] (c_X8_isTown l hZ (ad := ad) (σ := σ) q2) gX8_credits_X8_isTown ⟨by decide +kernel, by decide +kernel, rfl⟩ rfl ⟨Nat.le_of_ble_eq_true rfl, Nat.le_of_ble_eq_true rfl⟩ ⟨rfl, rfl, rfl, by decide, rfl, rfl⟩ rfl rfl (Nat.le_of_ble_eq_true rfl) ⟨Nat.le_refl _, Nat.le_refl _⟩ dX8_credits_1 rfl rfl ?_
  refine g_if_ne 7 13 C dX8_credits_4 (by decide) rfl hF (fun hF => ?_) (fun hF => ?_)
  · refine g_iload_n 14 C dX8_credits_13 rfl rfl rfl ?_
    refine g_iconst 15 C 1 dX8_credits_14 rfl (by decide) ?_
    refine g_bipush 17 C 20 dX8_credits_15 rfl (by decide) ?_
    obtain ⟨r3, q4, hF⟩ := sg_bndE hF
    refine g_callSi 20 C (w2 := (ww_X8 Y ad σ)) (As := [.int x2, .int 1, .int 20]) (st := []) (n0 := 3) [] [0, 1, 2, 3, 4, 5, 6, 7, 8, 9, 10, 11, 12] [0, 1, 2, 3, 4, 5, 6, 7, 8, 9, 10, 11, 12] (c_X8_isIn l hZ (ad := ad) (σ := σ) q4) gX8_credits_X8_isIn ⟨by decide +kernel, by decide +kernel, rfl⟩ rfl ⟨Nat.le_of_ble_eq_true rfl, Nat.le_of_ble_eq_true rfl⟩ ⟨rfl, rfl, rfl, by decide, rfl, rfl⟩ rfl rfl (Nat.le_of_ble_eq_true rfl) ⟨Nat.le_refl _, Nat.le_refl _⟩ dX8_credits_17 rfl rfl ?_
    refine g_if_eq 23 33 C dX8_credits_20 (by decide) rfl hF (fun hF => ?_) (fun hF => ?_)
    · refine g_aload_n 34 C dX8_credits_33 rfl rfl rfl ?_
      refine g_bipush 36 C (-2) dX8_credits_34 rfl (by decide) ?_
      obtain ⟨r7, τ5, q6, hF⟩ := sg_bnd2E hF
      refine g_callVi 39 C (w2 := (ww_X8 Y ad τ5)) (As := [.int (-2)]) (st := []) (n0 := 1) (ci := 9) (q0 := 0) [0, 1, 2, 3, 4, 5, 6, 7, 8, 9, 10, 11, 12] [] [0, 1, 2, 3, 4, 5, 6, 7, 8, 9, 10, 11, 12] (c_X8_fail l hZ (ad := ad) q6) gX8_credits_X8_fail ⟨rfl, by decide +kernel, by decide +kernel, rfl⟩ rfl ⟨Nat.le_of_ble_eq_true rfl, Nat.le_of_ble_eq_true rfl⟩ rfl rfl ⟨rfl, rfl, rfl, by decide, rfl, rfl⟩ rfl rfl (Nat.le_of_ble_eq_true rfl) ⟨Nat.le_refl _, Nat.le_refl _⟩ dX8_credits_36 rfl rfl ?_
      obtain ⟨e1, e2⟩ := sg_pairE hF
      exact g_iret C hr rfl hQ hsz dX8_credits_39 e1.symm (by rw [e2])
    · refine g_iload_n 24 C dX8_credits_23 rfl rfl rfl ?_
      refine g_iconst 25 C 1 dX8_credits_24 rfl (by decide) ?_
      refine g_bipush 27 C 6 dX8_credits_25 rfl (by decide) ?_
      obtain ⟨r8, q9, hF⟩ := sg_bndE hF
      refine g_callSi 30 C (w2 := (ww_X8 Y ad σ)) (As := [.int x3, .int 1, .int 6]) (st := []) (n0 := 3) [] [0, 1, 2, 3, 4, 5, 6, 7, 8, 9, 10, 11, 12] [0, 1, 2, 3, 4, 5, 6, 7, 8, 9, 10, 11, 12] (c_X8_isIn l hZ (ad := ad) (σ := σ) q9) gX8_credits_X8_isIn ⟨by decide +kernel, by decide +kernel, rfl⟩ rfl ⟨Nat.le_of_ble_eq_true rfl, Nat.le_of_ble_eq_true rfl⟩ ⟨rfl, rfl, rfl, by decide, rfl, rfl⟩ rfl rfl (Nat.le_of_ble_eq_true rfl) ⟨Nat.le_refl _, Nat.le_refl _⟩ dX8_credits_27 rfl rfl ?_
      refine g_if_ne 33 40 C dX8_credits_30 (by decide) rfl hF (fun hF => ?_) (fun hF => ?_)
      · refine g_aload_n 41 C dX8_credits_40 rfl rfl rfl ?_
        refine g_get 44 C (own := RX8) (C1 := RX8) (T := TX8) 0 8 (.ref (ad 1)) kiX8_credits_X8 kfX8_credits_13 rfl dX8_credits_41 rfl rfl rfl (by decide) rfl ?_
        refine g_iconst 45 C 1 dX8_credits_44 rfl (by decide) ?_
        refine g_ialdc 46 C 1 (1) (σ 1 1) dX8_credits_45 rfl rfl (by decide) (by decide) rfl ?_
        obtain ⟨y10, ey10, hF⟩ := sg_letE hF
        refine g_top ey10 ?_
        refine g_istore 48 C [(4, .int y10), (0, .ref (ad 0)), (1, .int x1), (2, .int x2), (3, .int x3)] dX8_credits_46 rfl (by decide) rfl ?_
        refine g_bipush 50 C 60 dX8_credits_48 rfl (by decide) ?_
        refine g_aload_n 51 C dX8_credits_50 rfl rfl rfl ?_
        refine g_get 54 C (own := RX8) (C1 := RX8) (T := TX8) 0 8 (.ref (ad 1)) kiX8_credits_X8 kfX8_credits_13 rfl dX8_credits_51 rfl rfl rfl (by decide) rfl ?_
        refine g_iload_n 55 C dX8_credits_54 rfl rfl rfl ?_
        refine g_iconst 56 C 0 dX8_credits_55 rfl (by decide) ?_
        obtain ⟨r11, q12, hF⟩ := sg_bndE hF
        refine g_callSi 59 C (w2 := (ww_X8 Y ad σ)) (As := [.int x1, .int 0]) (st := [.ref (ad 1), .int 60]) (n0 := 2) [] [0, 1, 2, 3, 4, 5, 6, 7, 8, 9, 10, 11, 12] [0, 1, 2, 3, 4, 5, 6, 7, 8, 9, 10, 11, 12] (c_X8_at l hZ (ad := ad) (σ := σ) q12) gX8_credits_X8_at ⟨by decide +kernel, by decide +kernel, rfl⟩ rfl ⟨Nat.le_of_ble_eq_true rfl, Nat.le_of_ble_eq_true rfl⟩ ⟨rfl, rfl, rfl, by decide, rfl, rfl⟩ rfl rfl (Nat.le_of_ble_eq_true rfl) ⟨Nat.le_refl _, Nat.le_refl _⟩ dX8_credits_56 rfl rfl ?_
        obtain ⟨h13, hF⟩ := sg_grdE hF
        refine g_ialdc 60 C 1 (r11.toNatClampNeg) (σ 1 r11.toNatClampNeg) dX8_credits_59 rfl rfl rfl h13 rfl ?_
        refine g_isub 61 C dX8_credits_60 rfl ?_
        obtain ⟨y14, ey14, hF⟩ := sg_letE hF
        refine g_top ey14 ?_
        refine g_istore 63 C [(5, .int y14), (4, .int y10), (0, .ref (ad 0)), (1, .int x1), (2, .int x2), (3, .int x3)] dX8_credits_61 rfl (by decide) rfl ?_
        refine g_aload_n 64 C dX8_credits_63 rfl rfl rfl ?_
        refine g_get 67 C (own := RX8) (C1 := RX8) (T := TX8) 0 8 (.ref (ad 1)) kiX8_credits_X8 kfX8_credits_13 rfl dX8_credits_64 rfl rfl rfl (by decide) rfl ?_
        refine g_iload_n 68 C dX8_credits_67 rfl rfl rfl ?_
        refine g_iconst 69 C 3 dX8_credits_68 rfl (by decide) ?_
        obtain ⟨r15, q16, hF⟩ := sg_bndE hF
        refine g_callSi 72 C (w2 := (ww_X8 Y ad σ)) (As := [.int x1, .int 3]) (st := [.ref (ad 1)]) (n0 := 2) [] [0, 1, 2, 3, 4, 5, 6, 7, 8, 9, 10, 11, 12] [0, 1, 2, 3, 4, 5, 6, 7, 8, 9, 10, 11, 12] (c_X8_at l hZ (ad := ad) (σ := σ) q16) gX8_credits_X8_at ⟨by decide +kernel, by decide +kernel, rfl⟩ rfl ⟨Nat.le_of_ble_eq_true rfl, Nat.le_of_ble_eq_true rfl⟩ ⟨rfl, rfl, rfl, by decide, rfl, rfl⟩ rfl rfl (Nat.le_of_ble_eq_true rfl) ⟨Nat.le_refl _, Nat.le_refl _⟩ dX8_credits_69 rfl rfl ?_
        obtain ⟨h17, hF⟩ := sg_grdE hF
        refine g_ialdc 73 C 1 (r15.toNatClampNeg) (σ 1 r15.toNatClampNeg) dX8_credits_72 rfl rfl rfl h17 rfl ?_
        refine g_if_le 76 92 C dX8_credits_73 (by decide) rfl hF (fun hF => ?_) (fun hF => ?_)
        · refine g_iload 94 C dX8_credits_92 rfl rfl ?_
          refine g_bipush 96 C 8 dX8_credits_94 rfl (by decide) ?_
          refine g_icmp_ne 99 107 C dX8_credits_96 (by decide) rfl hF (fun hF => ?_) (fun hF => ?_)
          · refine g_iload_n 108 C dX8_credits_107 rfl rfl rfl ?_
            refine g_iload 110 C dX8_credits_108 rfl rfl ?_
            refine g_icmp_le 113 121 C dX8_credits_110 (by decide) rfl hF (fun hF => ?_) (fun hF => ?_)
            · refine g_aload_n 122 C dX8_credits_121 rfl rfl rfl ?_
              refine g_get 125 C (own := RX8) (C1 := RX8) (T := TX8) 0 8 (.ref (ad 1)) kiX8_credits_X8 kfX8_credits_13 rfl dX8_credits_122 rfl rfl rfl (by decide) rfl ?_
              refine g_iload 127 C dX8_credits_125 rfl rfl ?_
              refine g_iconst 128 C 0 dX8_credits_127 rfl (by decide) ?_
              obtain ⟨r18, q19, hF⟩ := sg_bndE hF
              refine g_callSi 131 C (w2 := (ww_X8 Y ad σ)) (As := [.int y10, .int 0]) (st := [.ref (ad 1)]) (n0 := 2) [] [0, 1, 2, 3, 4, 5, 6, 7, 8, 9, 10, 11, 12] [0, 1, 2, 3, 4, 5, 6, 7, 8, 9, 10, 11, 12] (c_X8_in l hZ (ad := ad) (σ := σ) q19) gX8_credits_X8_in ⟨by decide +kernel, by decide +kernel, rfl⟩ rfl ⟨Nat.le_of_ble_eq_true rfl, Nat.le_of_ble_eq_true rfl⟩ ⟨rfl, rfl, rfl, by decide, rfl, rfl⟩ rfl rfl (Nat.le_of_ble_eq_true rfl) ⟨Nat.le_refl _, Nat.le_refl _⟩ dX8_credits_128 rfl rfl ?_
              refine g_iload_n 132 C dX8_credits_131 rfl rfl rfl ?_
              obtain ⟨h20, hF⟩ := sg_grdE hF
              obtain ⟨σ21, eσ21, hF⟩ := sg_letE hF
              refine g_iast 133 C (w2 := (ww_X8 Y ad σ21)) 1 dX8_credits_132 rfl rfl h20 (by rw [eσ21]; rfl) ?_
              refine g_aload_n 134 C dX8_credits_133 rfl rfl rfl ?_
              refine g_get 137 C (own := RX8) (C1 := RX8) (T := TX8) 0 8 (.ref (ad 1)) kiX8_credits_X8 kfX8_credits_13 rfl dX8_credits_134 rfl rfl rfl (by decide) rfl ?_
              refine g_iload 139 C dX8_credits_137 rfl rfl ?_
              refine g_iconst 140 C 1 dX8_credits_139 rfl (by decide) ?_
              obtain ⟨r22, q23, hF⟩ := sg_bndE hF
              refine g_callSi 143 C (w2 := (ww_X8 Y ad σ21)) (As := [.int y10, .int 1]) (st := [.ref (ad 1)]) (n0 := 2) [] [0, 1, 2, 3, 4, 5, 6, 7, 8, 9, 10, 11, 12] [0, 1, 2, 3, 4, 5, 6, 7, 8, 9, 10, 11, 12] (c_X8_in l hZ (ad := ad) (σ := σ21) q23) gX8_credits_X8_in ⟨by decide +kernel, by decide +kernel, rfl⟩ rfl ⟨Nat.le_of_ble_eq_true rfl, Nat.le_of_ble_eq_true rfl⟩ ⟨rfl, rfl, rfl, by decide, rfl, rfl⟩ rfl rfl (Nat.le_of_ble_eq_true rfl) ⟨Nat.le_refl _, Nat.le_refl _⟩ dX8_credits_140 rfl rfl ?_
              refine g_iload_n 144 C dX8_credits_143 rfl rfl rfl ?_
              obtain ⟨h24, hF⟩ := sg_grdE hF
              obtain ⟨σ25, eσ25, hF⟩ := sg_letE hF
              refine g_iast 145 C (w2 := (ww_X8 Y ad σ25)) 1 dX8_credits_144 rfl rfl h24 (by rw [eσ25]; rfl) ?_
              refine g_aload_n 146 C dX8_credits_145 rfl rfl rfl ?_
              refine g_get 149 C (own := RX8) (C1 := RX8) (T := TX8) 0 8 (.ref (ad 1)) kiX8_credits_X8 kfX8_credits_13 rfl dX8_credits_146 rfl rfl rfl (by decide) rfl ?_
              refine g_iload 151 C dX8_credits_149 rfl rfl ?_
              refine g_iconst 152 C 2 dX8_credits_151 rfl (by decide) ?_
              obtain ⟨r26, q27, hF⟩ := sg_bndE hF
              refine g_callSi 155 C (w2 := (ww_X8 Y ad σ25)) (As := [.int y10, .int 2]) (st := [.ref (ad 1)]) (n0 := 2) [] [0, 1, 2, 3, 4, 5, 6, 7, 8, 9, 10, 11, 12] [0, 1, 2, 3, 4, 5, 6, 7, 8, 9, 10, 11, 12] (c_X8_in l hZ (ad := ad) (σ := σ25) q27) gX8_credits_X8_in ⟨by decide +kernel, by decide +kernel, rfl⟩ rfl ⟨Nat.le_of_ble_eq_true rfl, Nat.le_of_ble_eq_true rfl⟩ ⟨rfl, rfl, rfl, by decide, rfl, rfl⟩ rfl rfl (Nat.le_of_ble_eq_true rfl) ⟨Nat.le_refl _, Nat.le_refl _⟩ dX8_credits_152 rfl rfl ?_
              refine g_aload_n 156 C dX8_credits_155 rfl rfl rfl ?_
              refine g_get 159 C (own := RX8) (C1 := RX8) (T := TX8) 0 8 (.ref (ad 1)) kiX8_credits_X8 kfX8_credits_13 rfl dX8_credits_156 rfl rfl rfl (by decide) rfl ?_
              refine g_iconst 160 C 0 dX8_credits_159 rfl (by decide) ?_
              refine g_ialdc 161 C 1 (0) (σ25 1 0) dX8_credits_160 rfl rfl (by decide) (by decide) rfl ?_
              refine g_iload_n 162 C dX8_credits_161 rfl rfl rfl ?_
              refine g_iadd 163 C dX8_credits_162 rfl ?_
              obtain ⟨h28, hF⟩ := sg_grdE hF
              obtain ⟨σ29, eσ29, hF⟩ := sg_letE hF
              refine g_iast 164 C (w2 := (ww_X8 Y ad σ29)) 1 dX8_credits_163 rfl rfl h28 (by rw [eσ29]; rfl) ?_
              refine g_aload_n 165 C dX8_credits_164 rfl rfl rfl ?_
              refine g_get 168 C (own := RX8) (C1 := RX8) (T := TX8) 0 8 (.ref (ad 1)) kiX8_credits_X8 kfX8_credits_13 rfl dX8_credits_165 rfl rfl rfl (by decide) rfl ?_
              refine g_iconst 169 C 1 dX8_credits_168 rfl (by decide) ?_
              refine g_dup2 170 C dX8_credits_169 rfl rfl rfl ?_
              refine g_ialdc 171 C 1 (1) (σ29 1 1) dX8_credits_170 rfl rfl (by decide) (by decide) rfl ?_
              refine g_iconst 172 C 1 dX8_credits_171 rfl (by decide) ?_
              refine g_iadd 173 C dX8_credits_172 rfl ?_
              obtain ⟨σ30, eσ30, hF⟩ := sg_letE hF
              refine g_iast 174 C (w2 := (ww_X8 Y ad σ30)) 1 dX8_credits_173 rfl rfl (by decide) (by rw [eσ30]; rfl) ?_
              refine g_aload_n 175 C dX8_credits_174 rfl rfl rfl ?_
              refine g_get 178 C (own := RX8) (C1 := RX8) (T := TX8) 0 8 (.ref (ad 1)) kiX8_credits_X8 kfX8_credits_13 rfl dX8_credits_175 rfl rfl rfl (by decide) rfl ?_
              refine g_iload_n 179 C dX8_credits_178 rfl rfl rfl ?_
              refine g_iconst 180 C 0 dX8_credits_179 rfl (by decide) ?_
              obtain ⟨r31, q32, hF⟩ := sg_bndE hF
              refine g_callSi 183 C (w2 := (ww_X8 Y ad σ30)) (As := [.int x1, .int 0]) (st := [.ref (ad 1)]) (n0 := 2) [] [0, 1, 2, 3, 4, 5, 6, 7, 8, 9, 10, 11, 12] [0, 1, 2, 3, 4, 5, 6, 7, 8, 9, 10, 11, 12] (c_X8_at l hZ (ad := ad) (σ := σ30) q32) gX8_credits_X8_at ⟨by decide +kernel, by decide +kernel, rfl⟩ rfl ⟨Nat.le_of_ble_eq_true rfl, Nat.le_of_ble_eq_true rfl⟩ ⟨rfl, rfl, rfl, by decide, rfl, rfl⟩ rfl rfl (Nat.le_of_ble_eq_true rfl) ⟨Nat.le_refl _, Nat.le_refl _⟩ dX8_credits_180 rfl rfl ?_
              refine g_dup2 184 C dX8_credits_183 rfl rfl rfl ?_
              obtain ⟨h33, hF⟩ := sg_grdE hF
              refine g_ialdc 185 C 1 (r31.toNatClampNeg) (σ30 1 r31.toNatClampNeg) dX8_credits_184 rfl rfl rfl h33 rfl ?_
              refine g_iload_n 186 C dX8_credits_185 rfl rfl rfl ?_
              refine g_iadd 187 C dX8_credits_186 rfl ?_
              obtain ⟨σ34, eσ34, hF⟩ := sg_letE hF
              refine g_iast 188 C (w2 := (ww_X8 Y ad σ34)) 1 dX8_credits_187 rfl rfl h33 (by rw [eσ34]; rfl) ?_
              refine g_aload_n 189 C dX8_credits_188 rfl rfl rfl ?_
              refine g_get 192 C (own := RX8) (C1 := RX8) (T := TX8) 0 8 (.ref (ad 1)) kiX8_credits_X8 kfX8_credits_13 rfl dX8_credits_189 rfl rfl rfl (by decide) rfl ?_
              refine g_iconst 193 C 2 dX8_credits_192 rfl (by decide) ?_
              refine g_dup2 194 C dX8_credits_193 rfl rfl rfl ?_
              refine g_ialdc 195 C 1 (2) (σ34 1 2) dX8_credits_194 rfl rfl (by decide) (by decide) rfl ?_
              refine g_iload_n 196 C dX8_credits_195 rfl rfl rfl ?_
              refine g_iadd 197 C dX8_credits_196 rfl ?_
              obtain ⟨σ35, eσ35, hF⟩ := sg_letE hF
              refine g_iast 198 C (w2 := (ww_X8 Y ad σ35)) 1 dX8_credits_197 rfl rfl (by decide) (by rw [eσ35]; rfl) ?_
              refine g_iload 200 C dX8_credits_198 rfl rfl ?_
              obtain ⟨e1, e2⟩ := sg_pairE hF
              exact g_iret C hr rfl hQ hsz dX8_credits_200 e1.symm (by rw [e2])
            · refine g_aload_n 114 C dX8_credits_113 rfl rfl rfl ?_
              refine g_iconst 115 C 3 dX8_credits_114 rfl (by decide) ?_
              refine g_iload 117 C dX8_credits_115 rfl rfl ?_
              obtain ⟨r38, τ36, q37, hF⟩ := sg_bnd2E hF
              refine g_callVi 120 C (w2 := (ww_X8 Y ad τ36)) (As := [.int 3, .int y14]) (st := []) (n0 := 2) (ci := 9) (q0 := 0) [0, 1, 2, 3, 4, 5, 6, 7, 8, 9, 10, 11, 12] [] [0, 1, 2, 3, 4, 5, 6, 7, 8, 9, 10, 11, 12] (c_X8_refuses l hZ (ad := ad) q37) gX8_credits_X8_refuses ⟨rfl, by decide +kernel, by decide +kernel, rfl⟩ rfl ⟨Nat.le_of_ble_eq_true rfl, Nat.le_of_ble_eq_true rfl⟩ rfl rfl ⟨rfl, rfl, rfl, by decide, rfl, rfl⟩ rfl rfl (Nat.le_of_ble_eq_true rfl) ⟨Nat.le_refl _, Nat.le_refl _⟩ dX8_credits_117 rfl rfl ?_
              obtain ⟨e1, e2⟩ := sg_pairE hF
              exact g_iret C hr rfl hQ hsz dX8_credits_120 e1.symm (by rw [e2])
          · refine g_aload_n 100 C dX8_credits_99 rfl rfl rfl ?_
            refine g_iconst 101 C 1 dX8_credits_100 rfl (by decide) ?_
            refine g_bipush 103 C 8 dX8_credits_101 rfl (by decide) ?_
            obtain ⟨r41, τ39, q40, hF⟩ := sg_bnd2E hF
            refine g_callVi 106 C (w2 := (ww_X8 Y ad τ39)) (As := [.int 1, .int 8]) (st := []) (n0 := 2) (ci := 9) (q0 := 0) [0, 1, 2, 3, 4, 5, 6, 7, 8, 9, 10, 11, 12] [] [0, 1, 2, 3, 4, 5, 6, 7, 8, 9, 10, 11, 12] (c_X8_refuses l hZ (ad := ad) q40) gX8_credits_X8_refuses ⟨rfl, by decide +kernel, by decide +kernel, rfl⟩ rfl ⟨Nat.le_of_ble_eq_true rfl, Nat.le_of_ble_eq_true rfl⟩ rfl rfl ⟨rfl, rfl, rfl, by decide, rfl, rfl⟩ rfl rfl (Nat.le_of_ble_eq_true rfl) ⟨Nat.le_refl _, Nat.le_refl _⟩ dX8_credits_103 rfl rfl ?_
            obtain ⟨e1, e2⟩ := sg_pairE hF
            exact g_iret C hr rfl hQ hsz dX8_credits_106 e1.symm (by rw [e2])
        · refine g_aload_n 77 C dX8_credits_76 rfl rfl rfl ?_
          refine g_iconst 78 C 2 dX8_credits_77 rfl (by decide) ?_
          refine g_aload_n 79 C dX8_credits_78 rfl rfl rfl ?_
          refine g_get 82 C (own := RX8) (C1 := RX8) (T := TX8) 0 8 (.ref (ad 1)) kiX8_credits_X8 kfX8_credits_13 rfl dX8_credits_79 rfl rfl rfl (by decide) rfl ?_
          refine g_iload_n 83 C dX8_credits_82 rfl rfl rfl ?_
          refine g_iconst 84 C 3 dX8_credits_83 rfl (by decide) ?_
          obtain ⟨r42, q43, hF⟩ := sg_bndE hF
          refine g_callSi 87 C (w2 := (ww_X8 Y ad σ)) (As := [.int x1, .int 3]) (st := [.ref (ad 1), .int 2, .ref (ad 0)]) (n0 := 2) [] [0, 1, 2, 3, 4, 5, 6, 7, 8, 9, 10, 11, 12] [0, 1, 2, 3, 4, 5, 6, 7, 8, 9, 10, 11, 12] (c_X8_at l hZ (ad := ad) (σ := σ) q43) gX8_credits_X8_at ⟨by decide +kernel, by decide +kernel, rfl⟩ rfl ⟨Nat.le_of_ble_eq_true rfl, Nat.le_of_ble_eq_true rfl⟩ ⟨rfl, rfl, rfl, by decide, rfl, rfl⟩ rfl rfl (Nat.le_of_ble_eq_true rfl) ⟨Nat.le_refl _, Nat.le_refl _⟩ dX8_credits_84 rfl rfl ?_
          obtain ⟨h44, hF⟩ := sg_grdE hF
          refine g_ialdc 88 C 1 (r42.toNatClampNeg) (σ 1 r42.toNatClampNeg) dX8_credits_87 rfl rfl rfl h44 rfl ?_
          obtain ⟨r47, τ45, q46, hF⟩ := sg_bnd2E hF
          refine g_callVi 91 C (w2 := (ww_X8 Y ad τ45)) (As := [.int 2, .int (σ 1 r42.toNatClampNeg)]) (st := []) (n0 := 2) (ci := 9) (q0 := 0) [0, 1, 2, 3, 4, 5, 6, 7, 8, 9, 10, 11, 12] [] [0, 1, 2, 3, 4, 5, 6, 7, 8, 9, 10, 11, 12] (c_X8_refuses l hZ (ad := ad) q46) gX8_credits_X8_refuses ⟨rfl, by decide +kernel, by decide +kernel, rfl⟩ rfl ⟨Nat.le_of_ble_eq_true rfl, Nat.le_of_ble_eq_true rfl⟩ rfl rfl ⟨rfl, rfl, rfl, by decide, rfl, rfl⟩ rfl rfl (Nat.le_of_ble_eq_true rfl) ⟨Nat.le_refl _, Nat.le_refl _⟩ dX8_credits_88 rfl rfl ?_
          obtain ⟨e1, e2⟩ := sg_pairE hF
          exact g_iret C hr rfl hQ hsz dX8_credits_91 e1.symm (by rw [e2])
      · refine g_aload_n 34 C dX8_credits_33 rfl rfl rfl ?_
        refine g_bipush 36 C (-2) dX8_credits_34 rfl (by decide) ?_
        obtain ⟨r50, τ48, q49, hF⟩ := sg_bnd2E hF
        refine g_callVi 39 C (w2 := (ww_X8 Y ad τ48)) (As := [.int (-2)]) (st := []) (n0 := 1) (ci := 9) (q0 := 0) [0, 1, 2, 3, 4, 5, 6, 7, 8, 9, 10, 11, 12] [] [0, 1, 2, 3, 4, 5, 6, 7, 8, 9, 10, 11, 12] (c_X8_fail l hZ (ad := ad) q49) gX8_credits_X8_fail ⟨rfl, by decide +kernel, by decide +kernel, rfl⟩ rfl ⟨Nat.le_of_ble_eq_true rfl, Nat.le_of_ble_eq_true rfl⟩ rfl rfl ⟨rfl, rfl, rfl, by decide, rfl, rfl⟩ rfl rfl (Nat.le_of_ble_eq_true rfl) ⟨Nat.le_refl _, Nat.le_refl _⟩ dX8_credits_36 rfl rfl ?_
        obtain ⟨e1, e2⟩ := sg_pairE hF
        exact g_iret C hr rfl hQ hsz dX8_credits_39 e1.symm (by rw [e2])
  · refine g_aload_n 8 C dX8_credits_7 rfl rfl rfl ?_
    refine g_iconst 9 C (-1) dX8_credits_8 rfl (by decide) ?_
    obtain ⟨r53, τ51, q52, hF⟩ := sg_bnd2E hF
    refine g_callVi 12 C (w2 := (ww_X8 Y ad τ51)) (As := [.int (-1)]) (st := []) (n0 := 1) (ci := 9) (q0 := 0) [0, 1, 2, 3, 4, 5, 6, 7, 8, 9, 10, 11, 12] [] [0, 1, 2, 3, 4, 5, 6, 7, 8, 9, 10, 11, 12] (c_X8_fail l hZ (ad := ad) q52) gX8_credits_X8_fail ⟨rfl, by decide +kernel, by decide +kernel, rfl⟩ rfl ⟨Nat.le_of_ble_eq_true rfl, Nat.le_of_ble_eq_true rfl⟩ rfl rfl ⟨rfl, rfl, rfl, by decide, rfl, rfl⟩ rfl rfl (Nat.le_of_ble_eq_true rfl) ⟨Nat.le_refl _, Nat.le_refl _⟩ dX8_credits_9 rfl rfl ?_
    obtain ⟨e1, e2⟩ := sg_pairE hF
    exact g_iret C hr rfl hQ hsz dX8_credits_12 e1.symm (by rw [e2])
def f_X8_credit (x1 : Int32) (x2 : Int32) (x3 : Int32) (σ : sg_S) : Option (Int32 × sg_S) := sg_bnd (f_X8_begins  σ) (fun τ1 => sg_bnd2 (f_X8_credits x1 x2 x3 τ1) (fun r5 τ3 => sg_bnd2 (f_X8_ends r5 τ3) (fun r8 τ6 => some (r8, τ6))))
set_option maxHeartbeats 4000000 in
set_option maxRecDepth 100000 in
theorem c_X8_credit (l : Launch) {D : va_G} {Y : Nat → ClassId} {Z : (Nat → Prop) → State → Heap → Prop} (hZ : sg_Zok Z) {ad : Nat → Nat} {σ : sg_S} {σ' : sg_S} {x1 x2 x3 : Int32} {r : Int32} (hF : f_X8_credit x1 x2 x3 σ = some (r, σ')) : sg_MI l yX8_credit wsX8_credit 3 68 D Y Z [.ref (ad 0), .int x1, .int x2, .int x3] (ww_X8 Y ad σ) r (ww_X8 Y ad σ') := by
  intro sz
  refine sg_enter (own := RX8) (maxL := 4) (ret := (some .int)) (cc := cX8_credit) (by decide +kernel) rfl rfl (Nat.le_of_ble_eq_true rfl) hZ ?_
  intro p e s m args below meth c C hr Q hQ hsz
  refine g_lv (lv2 := [(0, .ref (ad 0)), (1, .int x1), (2, .int x2), (3, .int x3)]) [0, 1, 2, 3] rfl ?_
  rw [f_X8_credit] at hF
  refine g_aload_n 1 C dX8_credit_0 rfl rfl rfl ?_
  obtain ⟨τ1, q2, hF⟩ := sg_bndE hF
  refine g_callVv 4 C (w2 := (ww_X8 Y ad τ1)) (As := []) (st := []) (n0 := 0) (ci := 9) (q0 := 0) [0, 1, 2, 3, 4, 5, 6, 7, 8, 9, 10, 11, 12] [] [0, 1, 2, 3, 4, 5, 6, 7, 8, 9, 10, 11, 12] (c_X8_begins l hZ (ad := ad) q2) gX8_credit_X8_begins ⟨rfl, by decide +kernel, by decide +kernel, rfl⟩ rfl ⟨Nat.le_of_ble_eq_true rfl, Nat.le_of_ble_eq_true rfl⟩ rfl rfl ⟨rfl, rfl, rfl, by decide, rfl, rfl⟩ rfl rfl (Nat.le_of_ble_eq_true rfl) ⟨Nat.le_refl _, Nat.le_refl _⟩ dX8_credit_1 rfl rfl ?_
  refine g_aload_n 5 C dX8_credit_4 rfl rfl rfl ?_
  refine g_aload_n 6 C dX8_credit_5 rfl rfl rfl ?_
  refine g_iload_n 7 C dX8_credit_6 rfl rfl rfl ?_
  refine g_iload_n 8 C dX8_credit_7 rfl rfl rfl ?_
  refine g_iload_n 9 C dX8_credit_8 rfl rfl rfl ?_
  obtain ⟨r5, τ3, q4, hF⟩ := sg_bnd2E hF
  refine g_callVi 12 C (w2 := (ww_X8 Y ad τ3)) (As := [.int x1, .int x2, .int x3]) (st := [.ref (ad 0)]) (n0 := 3) (ci := 9) (q0 := 0) [0, 1, 2, 3, 4, 5, 6, 7, 8, 9, 10, 11, 12] [] [0, 1, 2, 3, 4, 5, 6, 7, 8, 9, 10, 11, 12] (c_X8_credits l hZ (ad := ad) q4) gX8_credit_X8_credits ⟨rfl, by decide +kernel, by decide +kernel, rfl⟩ rfl ⟨Nat.le_of_ble_eq_true rfl, Nat.le_of_ble_eq_true rfl⟩ rfl rfl ⟨rfl, rfl, rfl, by decide, rfl, rfl⟩ rfl rfl (Nat.le_of_ble_eq_true rfl) ⟨Nat.le_refl _, Nat.le_refl _⟩ dX8_credit_9 rfl rfl ?_
  obtain ⟨r8, τ6, q7, hF⟩ := sg_bnd2E hF
  refine g_callVi 15 C (w2 := (ww_X8 Y ad τ6)) (As := [.int r5]) (st := []) (n0 := 1) (ci := 9) (q0 := 0) [0, 1, 2, 3, 4, 5, 6, 7, 8, 9, 10, 11, 12] [] [0, 1, 2, 3, 4, 5, 6, 7, 8, 9, 10, 11, 12] (c_X8_ends l hZ (ad := ad) q7) gX8_credit_X8_ends ⟨rfl, by decide +kernel, by decide +kernel, rfl⟩ rfl ⟨Nat.le_of_ble_eq_true rfl, Nat.le_of_ble_eq_true rfl⟩ rfl rfl ⟨rfl, rfl, rfl, by decide, rfl, rfl⟩ rfl rfl (Nat.le_of_ble_eq_true rfl) ⟨Nat.le_refl _, Nat.le_refl _⟩ dX8_credit_12 rfl rfl ?_
  obtain ⟨e1, e2⟩ := sg_pairE hF
  exact g_iret C hr rfl hQ hsz dX8_credit_15 e1.symm (by rw [e2])
theorem kiX8_goes_X8 : ∀ w ∈ u_ws RX8 TX8 27, w ∈ wsX8_goes := by decide +kernel
theorem kfX8_goes_13 : Cond.fieldLink RX8 13 "WeatherMinistryModel" "v" "[I" ∈ wsX8_goes := by decide +kernel
def f_X8_goes_L6 (x1 : Int32) : Nat → Int32 → sg_S → Option sg_S
  | 0, _, _ => none
  | nz + 1, z2, σz => (if z2 < 79 then (if z2 + 3 < 79 then sg_grd (sg_in (z2 + 3) 79) (sg_grd (sg_in z2 79) (sg_let (sg_up σz 1 (z2.toNatClampNeg) (σz 1 (z2 + 3).toNatClampNeg)) (fun σ8 => f_X8_goes_L6 x1 nz (z2 + 1) σ8))) else sg_grd (sg_in z2 79) (sg_let (sg_up σz 1 (z2.toNatClampNeg) 0) (fun σ5 => f_X8_goes_L6 x1 nz (z2 + 1) σ5))) else sg_let (sg_up σz 1 1 ((σz 1 1) - 1)) (fun σ3 => some σ3))
def f_X8_goes (x1 : Int32) (σ : sg_S) : Option sg_S := sg_bnd (f_X8_in x1 0) (fun r1 => f_X8_goes_L6 x1 1000 r1 σ)
set_option maxHeartbeats 4000000 in
set_option maxRecDepth 100000 in
theorem c_X8_goes (l : Launch) {D : va_G} {Y : Nat → ClassId} {Z : (Nat → Prop) → State → Heap → Prop} (hZ : sg_Zok Z) {ad : Nat → Nat} {σ : sg_S} {σ' : sg_S} {x1 : Int32} (hF : f_X8_goes x1 σ = some σ') : sg_MV l yX8_goes wsX8_goes 1 21 D Y Z [.ref (ad 0), .int x1] (ww_X8 Y ad σ) (ww_X8 Y ad σ') := by
  intro sz
  refine sg_enter (own := RX8) (maxL := 3) (ret := none) (cc := cX8_goes) (by decide +kernel) rfl rfl (Nat.le_of_ble_eq_true rfl) hZ ?_
  intro p e s m args below meth c C hr Q hQ hsz
  refine g_lv (lv2 := [(0, .ref (ad 0)), (1, .int x1)]) [0, 1] rfl ?_
  have K6 : ∀ (nz : Nat), ∀ (z2 : Int32) (σz : sg_S), f_X8_goes_L6 x1 nz z2 σz = some σ' → sg_G p l e ({ frames := 1, cells := 0, slots := 0, locals := 21 } : Room) s m args below meth c D (va_A (ww_X8 Y ad σ) s.heap.size) 3 0 0 Q 6 [(0, .ref (ad 0)), (2, .int z2)] [] (ww_X8 Y ad σz) := by
    intro nz
    induction nz with
    | zero =>
      intro z2 σz hF
      rw [f_X8_goes_L6.eq_1] at hF
      exact nomatch hF
    | succ nz ih =>
      intro z2 σz hF
      rw [f_X8_goes_L6.eq_2] at hF
      refine g_iload_n 7 C dX8_goes_6 rfl rfl rfl ?_
      refine g_bipush 9 C 79 dX8_goes_7 rfl (by decide) ?_
      refine g_icmp_ge 12 44 C dX8_goes_9 (by decide) rfl hF (fun hF => ?_) (fun hF => ?_)
      · refine g_aload_n 45 C dX8_goes_44 rfl rfl rfl ?_
        refine g_get 48 C (own := RX8) (C1 := RX8) (T := TX8) 0 8 (.ref (ad 1)) kiX8_goes_X8 kfX8_goes_13 rfl dX8_goes_45 rfl rfl rfl (by decide) rfl ?_
        refine g_iconst 49 C 1 dX8_goes_48 rfl (by decide) ?_
        refine g_dup2 50 C dX8_goes_49 rfl rfl rfl ?_
        refine g_ialdc 51 C 1 (1) (σz 1 1) dX8_goes_50 rfl rfl (by decide) (by decide) rfl ?_
        refine g_iconst 52 C 1 dX8_goes_51 rfl (by decide) ?_
        refine g_isub 53 C dX8_goes_52 rfl ?_
        obtain ⟨σ3, eσ3, hF⟩ := sg_letE hF
        refine g_iast 54 C (w2 := (ww_X8 Y ad σ3)) 1 dX8_goes_53 rfl rfl (by decide) (by rw [eσ3]; rfl) ?_
        have e2 := sg_someE hF
        exact g_vret C hr hQ hsz dX8_goes_54 (by rw [e2])
      · refine g_aload_n 13 C dX8_goes_12 rfl rfl rfl ?_
        refine g_get 16 C (own := RX8) (C1 := RX8) (T := TX8) 0 8 (.ref (ad 1)) kiX8_goes_X8 kfX8_goes_13 rfl dX8_goes_13 rfl rfl rfl (by decide) rfl ?_
        refine g_iload_n 17 C dX8_goes_16 rfl rfl rfl ?_
        refine g_iload_n 18 C dX8_goes_17 rfl rfl rfl ?_
        refine g_iconst 19 C 3 dX8_goes_18 rfl (by decide) ?_
        refine g_iadd 20 C dX8_goes_19 rfl ?_
        refine g_bipush 22 C 79 dX8_goes_20 rfl (by decide) ?_
        refine g_icmp_ge 25 36 C dX8_goes_22 (by decide) rfl hF (fun hF => ?_) (fun hF => ?_)
        · refine g_iconst 37 C 0 dX8_goes_36 rfl (by decide) ?_
          obtain ⟨h4, hF⟩ := sg_grdE hF
          obtain ⟨σ5, eσ5, hF⟩ := sg_letE hF
          refine g_iast 38 C (w2 := (ww_X8 Y ad σ5)) 1 dX8_goes_37 rfl rfl h4 (by rw [eσ5]; rfl) ?_
          refine g_iinc 41 C 1 (z2 + 1) [(2, .int (z2 + 1)), (0, .ref (ad 0))] dX8_goes_38 rfl rfl rfl (by decide) rfl ?_
          refine g_goto 6 C dX8_goes_41 (by decide) ?_
          refine g_lv (lv2 := [(0, .ref (ad 0)), (2, .int (z2 + 1))]) [1, 0] rfl ?_
          exact ih (z2 + 1) σ5 hF
        · refine g_aload_n 26 C dX8_goes_25 rfl rfl rfl ?_
          refine g_get 29 C (own := RX8) (C1 := RX8) (T := TX8) 0 8 (.ref (ad 1)) kiX8_goes_X8 kfX8_goes_13 rfl dX8_goes_26 rfl rfl rfl (by decide) rfl ?_
          refine g_iload_n 30 C dX8_goes_29 rfl rfl rfl ?_
          refine g_iconst 31 C 3 dX8_goes_30 rfl (by decide) ?_
          refine g_iadd 32 C dX8_goes_31 rfl ?_
          obtain ⟨h6, hF⟩ := sg_grdE hF
          refine g_ialdc 33 C 1 ((z2 + 3).toNatClampNeg) (σz 1 (z2 + 3).toNatClampNeg) dX8_goes_32 rfl rfl rfl h6 rfl ?_
          refine g_goto 37 C dX8_goes_33 (by decide) ?_
          obtain ⟨h7, hF⟩ := sg_grdE hF
          obtain ⟨σ8, eσ8, hF⟩ := sg_letE hF
          refine g_iast 38 C (w2 := (ww_X8 Y ad σ8)) 1 dX8_goes_37 rfl rfl h7 (by rw [eσ8]; rfl) ?_
          refine g_iinc 41 C 1 (z2 + 1) [(2, .int (z2 + 1)), (0, .ref (ad 0))] dX8_goes_38 rfl rfl rfl (by decide) rfl ?_
          refine g_goto 6 C dX8_goes_41 (by decide) ?_
          refine g_lv (lv2 := [(0, .ref (ad 0)), (2, .int (z2 + 1))]) [1, 0] rfl ?_
          exact ih (z2 + 1) σ8 hF
  rw [f_X8_goes] at hF
  refine g_iload_n 1 C dX8_goes_0 rfl rfl rfl ?_
  refine g_iconst 2 C 0 dX8_goes_1 rfl (by decide) ?_
  obtain ⟨r1, q2, hF⟩ := sg_bndE hF
  refine g_callSi 5 C (w2 := (ww_X8 Y ad σ)) (As := [.int x1, .int 0]) (st := []) (n0 := 2) [] [0, 1, 2, 3, 4, 5, 6, 7, 8, 9, 10, 11, 12] [0, 1, 2, 3, 4, 5, 6, 7, 8, 9, 10, 11, 12] (c_X8_in l hZ (ad := ad) (σ := σ) q2) gX8_goes_X8_in ⟨by decide +kernel, by decide +kernel, rfl⟩ rfl ⟨Nat.le_of_ble_eq_true rfl, Nat.le_of_ble_eq_true rfl⟩ ⟨rfl, rfl, rfl, by decide, rfl, rfl⟩ rfl rfl (Nat.le_of_ble_eq_true rfl) ⟨Nat.le_refl _, Nat.le_refl _⟩ dX8_goes_2 rfl rfl ?_
  refine g_istore_n 6 C [(2, .int r1), (0, .ref (ad 0)), (1, .int x1)] dX8_goes_5 rfl rfl (by decide) rfl ?_
  refine g_lv (lv2 := [(0, .ref (ad 0)), (2, .int r1)]) [1, 0] rfl ?_
  exact K6  1000 r1 σ hF
theorem kiX8_repays_X8 : ∀ w ∈ u_ws RX8 TX8 27, w ∈ wsX8_repays := by decide +kernel
theorem kfX8_repays_13 : Cond.fieldLink RX8 13 "WeatherMinistryModel" "v" "[I" ∈ wsX8_repays := by decide +kernel
def f_X8_repays (x1 : Int32) (σ : sg_S) : Option (Int32 × sg_S) := sg_bnd (f_X8_isCredit x1 σ) (fun r1 => (if r1 = 0 then sg_bnd2 (f_X8_fail (-1) σ) (fun r32 τ30 => some (r32, τ30)) else sg_bnd (f_X8_in x1 0) (fun r3 => sg_grd (sg_in r3 79) (sg_let (σ 1 r3.toNatClampNeg) (fun y6 => sg_bnd (f_X8_in x1 1) (fun r7 => sg_grd (sg_in r7 79) (sg_let (σ 1 r7.toNatClampNeg) (fun y10 => sg_bnd (f_X8_at y6 0) (fun r11 => sg_grd (sg_in r11 79) ((if σ 1 r11.toNatClampNeg < y10 then sg_bnd (f_X8_at y6 0) (fun r24 => sg_grd (sg_in r24 79) (sg_bnd2 (f_X8_refuses 4 (σ 1 r24.toNatClampNeg) σ) (fun r29 τ27 => some (r29, τ27)))) else sg_bnd (f_X8_at y6 0) (fun r14 => sg_grd (sg_in r14 79) (sg_let (sg_up σ 1 (r14.toNatClampNeg) ((σ 1 r14.toNatClampNeg) - y10)) (fun σ17 => sg_let (sg_up σ17 1 3 ((σ17 1 3) + y10)) (fun σ18 => sg_bnd (f_X8_goes x1 σ18) (fun τ19 => sg_bnd (f_X8_at y6 0) (fun r21 => sg_grd (sg_in r21 79) (some (τ19 1 r21.toNatClampNeg, τ19)))))))))))))))))))
set_option maxHeartbeats 4000000 in
set_option maxRecDepth 100000 in
theorem c_X8_repays (l : Launch) {D : va_G} {Y : Nat → ClassId} {Z : (Nat → Prop) → State → Heap → Prop} (hZ : sg_Zok Z) {ad : Nat → Nat} {σ : sg_S} {σ' : sg_S} {x1 : Int32} {r : Int32} (hF : f_X8_repays x1 σ = some (r, σ')) : sg_MI l yX8_repays wsX8_repays 2 43 D Y Z [.ref (ad 0), .int x1] (ww_X8 Y ad σ) r (ww_X8 Y ad σ') := by
  intro sz
  refine sg_enter (own := RX8) (maxL := 4) (ret := (some .int)) (cc := cX8_repays) (by decide +kernel) rfl rfl (Nat.le_of_ble_eq_true rfl) hZ ?_
  intro p e s m args below meth c C hr Q hQ hsz
  refine g_lv (lv2 := [(0, .ref (ad 0)), (1, .int x1)]) [0, 1] rfl ?_
  rw [f_X8_repays] at hF
  refine g_aload_n 1 C dX8_repays_0 rfl rfl rfl ?_
  refine g_iload_n 2 C dX8_repays_1 rfl rfl rfl ?_
  obtain ⟨r1, q2, hF⟩ := sg_bndE hF
  refine g_callVi 5 C (w2 := (ww_X8 Y ad σ)) (As := [.int x1]) (st := []) (n0 := 1) (ci := 9) (q0 := 0) [0, 1, 2, 3, 4, 5, 6, 7, 8, 9, 10, 11, 12] [] [0, 1, 2, 3, 4, 5, 6, 7, 8, 9, 10, 11, 12] (c_X8_isCredit l hZ (ad := ad) q2) gX8_repays_X8_isCredit ⟨rfl, by decide +kernel, by decide +kernel, rfl⟩ rfl ⟨Nat.le_of_ble_eq_true rfl, Nat.le_of_ble_eq_true rfl⟩ rfl rfl ⟨rfl, rfl, rfl, by decide, rfl, rfl⟩ rfl rfl (Nat.le_of_ble_eq_true rfl) ⟨Nat.le_refl _, Nat.le_refl _⟩ dX8_repays_2 rfl rfl ?_
  refine g_if_ne 8 14 C dX8_repays_5 (by decide) rfl hF (fun hF => ?_) (fun hF => ?_)
  · refine g_aload_n 15 C dX8_repays_14 rfl rfl rfl ?_
    refine g_get 18 C (own := RX8) (C1 := RX8) (T := TX8) 0 8 (.ref (ad 1)) kiX8_repays_X8 kfX8_repays_13 rfl dX8_repays_15 rfl rfl rfl (by decide) rfl ?_
    refine g_iload_n 19 C dX8_repays_18 rfl rfl rfl ?_
    refine g_iconst 20 C 0 dX8_repays_19 rfl (by decide) ?_
    obtain ⟨r3, q4, hF⟩ := sg_bndE hF
    refine g_callSi 23 C (w2 := (ww_X8 Y ad σ)) (As := [.int x1, .int 0]) (st := [.ref (ad 1)]) (n0 := 2) [] [0, 1, 2, 3, 4, 5, 6, 7, 8, 9, 10, 11, 12] [0, 1, 2, 3, 4, 5, 6, 7, 8, 9, 10, 11, 12] (c_X8_in l hZ (ad := ad) (σ := σ) q4) gX8_repays_X8_in ⟨by decide +kernel, by decide +kernel, rfl⟩ rfl ⟨Nat.le_of_ble_eq_true rfl, Nat.le_of_ble_eq_true rfl⟩ ⟨rfl, rfl, rfl, by decide, rfl, rfl⟩ rfl rfl (Nat.le_of_ble_eq_true rfl) ⟨Nat.le_refl _, Nat.le_refl _⟩ dX8_repays_20 rfl rfl ?_
    obtain ⟨h5, hF⟩ := sg_grdE hF
    refine g_ialdc 24 C 1 (r3.toNatClampNeg) (σ 1 r3.toNatClampNeg) dX8_repays_23 rfl rfl rfl h5 rfl ?_
    obtain ⟨y6, ey6, hF⟩ := sg_letE hF
    refine g_top ey6 ?_
    refine g_istore_n 25 C [(2, .int y6), (0, .ref (ad 0)), (1, .int x1)] dX8_repays_24 rfl rfl (by decide) rfl ?_
    refine g_aload_n 26 C dX8_repays_25 rfl rfl rfl ?_
    refine g_get 29 C (own := RX8) (C1 := RX8) (T := TX8) 0 8 (.ref (ad 1)) kiX8_repays_X8 kfX8_repays_13 rfl dX8_repays_26 rfl rfl rfl (by decide) rfl ?_
    refine g_iload_n 30 C dX8_repays_29 rfl rfl rfl ?_
    refine g_iconst 31 C 1 dX8_repays_30 rfl (by decide) ?_
    obtain ⟨r7, q8, hF⟩ := sg_bndE hF
    refine g_callSi 34 C (w2 := (ww_X8 Y ad σ)) (As := [.int x1, .int 1]) (st := [.ref (ad 1)]) (n0 := 2) [] [0, 1, 2, 3, 4, 5, 6, 7, 8, 9, 10, 11, 12] [0, 1, 2, 3, 4, 5, 6, 7, 8, 9, 10, 11, 12] (c_X8_in l hZ (ad := ad) (σ := σ) q8) gX8_repays_X8_in ⟨by decide +kernel, by decide +kernel, rfl⟩ rfl ⟨Nat.le_of_ble_eq_true rfl, Nat.le_of_ble_eq_true rfl⟩ ⟨rfl, rfl, rfl, by decide, rfl, rfl⟩ rfl rfl (Nat.le_of_ble_eq_true rfl) ⟨Nat.le_refl _, Nat.le_refl _⟩ dX8_repays_31 rfl rfl ?_
    obtain ⟨h9, hF⟩ := sg_grdE hF
    refine g_ialdc 35 C 1 (r7.toNatClampNeg) (σ 1 r7.toNatClampNeg) dX8_repays_34 rfl rfl rfl h9 rfl ?_
    obtain ⟨y10, ey10, hF⟩ := sg_letE hF
    refine g_top ey10 ?_
    refine g_istore_n 36 C [(3, .int y10), (2, .int y6), (0, .ref (ad 0)), (1, .int x1)] dX8_repays_35 rfl rfl (by decide) rfl ?_
    refine g_aload_n 37 C dX8_repays_36 rfl rfl rfl ?_
    refine g_get 40 C (own := RX8) (C1 := RX8) (T := TX8) 0 8 (.ref (ad 1)) kiX8_repays_X8 kfX8_repays_13 rfl dX8_repays_37 rfl rfl rfl (by decide) rfl ?_
    refine g_iload_n 41 C dX8_repays_40 rfl rfl rfl ?_
    refine g_iconst 42 C 0 dX8_repays_41 rfl (by decide) ?_
    obtain ⟨r11, q12, hF⟩ := sg_bndE hF
    refine g_callSi 45 C (w2 := (ww_X8 Y ad σ)) (As := [.int y6, .int 0]) (st := [.ref (ad 1)]) (n0 := 2) [] [0, 1, 2, 3, 4, 5, 6, 7, 8, 9, 10, 11, 12] [0, 1, 2, 3, 4, 5, 6, 7, 8, 9, 10, 11, 12] (c_X8_at l hZ (ad := ad) (σ := σ) q12) gX8_repays_X8_at ⟨by decide +kernel, by decide +kernel, rfl⟩ rfl ⟨Nat.le_of_ble_eq_true rfl, Nat.le_of_ble_eq_true rfl⟩ ⟨rfl, rfl, rfl, by decide, rfl, rfl⟩ rfl rfl (Nat.le_of_ble_eq_true rfl) ⟨Nat.le_refl _, Nat.le_refl _⟩ dX8_repays_42 rfl rfl ?_
    obtain ⟨h13, hF⟩ := sg_grdE hF
    refine g_ialdc 46 C 1 (r11.toNatClampNeg) (σ 1 r11.toNatClampNeg) dX8_repays_45 rfl rfl rfl h13 rfl ?_
    refine g_iload_n 47 C dX8_repays_46 rfl rfl rfl ?_
    refine g_icmp_ge 50 66 C dX8_repays_47 (by decide) rfl hF (fun hF => ?_) (fun hF => ?_)
    · refine g_aload_n 67 C dX8_repays_66 rfl rfl rfl ?_
      refine g_get 70 C (own := RX8) (C1 := RX8) (T := TX8) 0 8 (.ref (ad 1)) kiX8_repays_X8 kfX8_repays_13 rfl dX8_repays_67 rfl rfl rfl (by decide) rfl ?_
      refine g_iload_n 71 C dX8_repays_70 rfl rfl rfl ?_
      refine g_iconst 72 C 0 dX8_repays_71 rfl (by decide) ?_
      obtain ⟨r14, q15, hF⟩ := sg_bndE hF
      refine g_callSi 75 C (w2 := (ww_X8 Y ad σ)) (As := [.int y6, .int 0]) (st := [.ref (ad 1)]) (n0 := 2) [] [0, 1, 2, 3, 4, 5, 6, 7, 8, 9, 10, 11, 12] [0, 1, 2, 3, 4, 5, 6, 7, 8, 9, 10, 11, 12] (c_X8_at l hZ (ad := ad) (σ := σ) q15) gX8_repays_X8_at ⟨by decide +kernel, by decide +kernel, rfl⟩ rfl ⟨Nat.le_of_ble_eq_true rfl, Nat.le_of_ble_eq_true rfl⟩ ⟨rfl, rfl, rfl, by decide, rfl, rfl⟩ rfl rfl (Nat.le_of_ble_eq_true rfl) ⟨Nat.le_refl _, Nat.le_refl _⟩ dX8_repays_72 rfl rfl ?_
      refine g_dup2 76 C dX8_repays_75 rfl rfl rfl ?_
      obtain ⟨h16, hF⟩ := sg_grdE hF
      refine g_ialdc 77 C 1 (r14.toNatClampNeg) (σ 1 r14.toNatClampNeg) dX8_repays_76 rfl rfl rfl h16 rfl ?_
      refine g_iload_n 78 C dX8_repays_77 rfl rfl rfl ?_
      refine g_isub 79 C dX8_repays_78 rfl ?_
      obtain ⟨σ17, eσ17, hF⟩ := sg_letE hF
      refine g_iast 80 C (w2 := (ww_X8 Y ad σ17)) 1 dX8_repays_79 rfl rfl h16 (by rw [eσ17]; rfl) ?_
      refine g_aload_n 81 C dX8_repays_80 rfl rfl rfl ?_
      refine g_get 84 C (own := RX8) (C1 := RX8) (T := TX8) 0 8 (.ref (ad 1)) kiX8_repays_X8 kfX8_repays_13 rfl dX8_repays_81 rfl rfl rfl (by decide) rfl ?_
      refine g_iconst 85 C 3 dX8_repays_84 rfl (by decide) ?_
      refine g_dup2 86 C dX8_repays_85 rfl rfl rfl ?_
      refine g_ialdc 87 C 1 (3) (σ17 1 3) dX8_repays_86 rfl rfl (by decide) (by decide) rfl ?_
      refine g_iload_n 88 C dX8_repays_87 rfl rfl rfl ?_
      refine g_iadd 89 C dX8_repays_88 rfl ?_
      obtain ⟨σ18, eσ18, hF⟩ := sg_letE hF
      refine g_iast 90 C (w2 := (ww_X8 Y ad σ18)) 1 dX8_repays_89 rfl rfl (by decide) (by rw [eσ18]; rfl) ?_
      refine g_aload_n 91 C dX8_repays_90 rfl rfl rfl ?_
      refine g_iload_n 92 C dX8_repays_91 rfl rfl rfl ?_
      obtain ⟨τ19, q20, hF⟩ := sg_bndE hF
      refine g_callVv 95 C (w2 := (ww_X8 Y ad τ19)) (As := [.int x1]) (st := []) (n0 := 1) (ci := 9) (q0 := 0) [0, 1, 2, 3, 4, 5, 6, 7, 8, 9, 10, 11, 12] [] [0, 1, 2, 3, 4, 5, 6, 7, 8, 9, 10, 11, 12] (c_X8_goes l hZ (ad := ad) q20) gX8_repays_X8_goes ⟨rfl, by decide +kernel, by decide +kernel, rfl⟩ rfl ⟨Nat.le_of_ble_eq_true rfl, Nat.le_of_ble_eq_true rfl⟩ rfl rfl ⟨rfl, rfl, rfl, by decide, rfl, rfl⟩ rfl rfl (Nat.le_of_ble_eq_true rfl) ⟨Nat.le_refl _, Nat.le_refl _⟩ dX8_repays_92 rfl rfl ?_
      refine g_aload_n 96 C dX8_repays_95 rfl rfl rfl ?_
      refine g_get 99 C (own := RX8) (C1 := RX8) (T := TX8) 0 8 (.ref (ad 1)) kiX8_repays_X8 kfX8_repays_13 rfl dX8_repays_96 rfl rfl rfl (by decide) rfl ?_
      refine g_iload_n 100 C dX8_repays_99 rfl rfl rfl ?_
      refine g_iconst 101 C 0 dX8_repays_100 rfl (by decide) ?_
      obtain ⟨r21, q22, hF⟩ := sg_bndE hF
      refine g_callSi 104 C (w2 := (ww_X8 Y ad τ19)) (As := [.int y6, .int 0]) (st := [.ref (ad 1)]) (n0 := 2) [] [0, 1, 2, 3, 4, 5, 6, 7, 8, 9, 10, 11, 12] [0, 1, 2, 3, 4, 5, 6, 7, 8, 9, 10, 11, 12] (c_X8_at l hZ (ad := ad) (σ := τ19) q22) gX8_repays_X8_at ⟨by decide +kernel, by decide +kernel, rfl⟩ rfl ⟨Nat.le_of_ble_eq_true rfl, Nat.le_of_ble_eq_true rfl⟩ ⟨rfl, rfl, rfl, by decide, rfl, rfl⟩ rfl rfl (Nat.le_of_ble_eq_true rfl) ⟨Nat.le_refl _, Nat.le_refl _⟩ dX8_repays_101 rfl rfl ?_
      obtain ⟨h23, hF⟩ := sg_grdE hF
      refine g_ialdc 105 C 1 (r21.toNatClampNeg) (τ19 1 r21.toNatClampNeg) dX8_repays_104 rfl rfl rfl h23 rfl ?_
      obtain ⟨e1, e2⟩ := sg_pairE hF
      exact g_iret C hr rfl hQ hsz dX8_repays_105 e1.symm (by rw [e2])
    · refine g_aload_n 51 C dX8_repays_50 rfl rfl rfl ?_
      refine g_iconst 52 C 4 dX8_repays_51 rfl (by decide) ?_
      refine g_aload_n 53 C dX8_repays_52 rfl rfl rfl ?_
      refine g_get 56 C (own := RX8) (C1 := RX8) (T := TX8) 0 8 (.ref (ad 1)) kiX8_repays_X8 kfX8_repays_13 rfl dX8_repays_53 rfl rfl rfl (by decide) rfl ?_
      refine g_iload_n 57 C dX8_repays_56 rfl rfl rfl ?_
      refine g_iconst 58 C 0 dX8_repays_57 rfl (by decide) ?_
      obtain ⟨r24, q25, hF⟩ := sg_bndE hF
      refine g_callSi 61 C (w2 := (ww_X8 Y ad σ)) (As := [.int y6, .int 0]) (st := [.ref (ad 1), .int 4, .ref (ad 0)]) (n0 := 2) [] [0, 1, 2, 3, 4, 5, 6, 7, 8, 9, 10, 11, 12] [0, 1, 2, 3, 4, 5, 6, 7, 8, 9, 10, 11, 12] (c_X8_at l hZ (ad := ad) (σ := σ) q25) gX8_repays_X8_at ⟨by decide +kernel, by decide +kernel, rfl⟩ rfl ⟨Nat.le_of_ble_eq_true rfl, Nat.le_of_ble_eq_true rfl⟩ ⟨rfl, rfl, rfl, by decide, rfl, rfl⟩ rfl rfl (Nat.le_of_ble_eq_true rfl) ⟨Nat.le_refl _, Nat.le_refl _⟩ dX8_repays_58 rfl rfl ?_
      obtain ⟨h26, hF⟩ := sg_grdE hF
      refine g_ialdc 62 C 1 (r24.toNatClampNeg) (σ 1 r24.toNatClampNeg) dX8_repays_61 rfl rfl rfl h26 rfl ?_
      obtain ⟨r29, τ27, q28, hF⟩ := sg_bnd2E hF
      refine g_callVi 65 C (w2 := (ww_X8 Y ad τ27)) (As := [.int 4, .int (σ 1 r24.toNatClampNeg)]) (st := []) (n0 := 2) (ci := 9) (q0 := 0) [0, 1, 2, 3, 4, 5, 6, 7, 8, 9, 10, 11, 12] [] [0, 1, 2, 3, 4, 5, 6, 7, 8, 9, 10, 11, 12] (c_X8_refuses l hZ (ad := ad) q28) gX8_repays_X8_refuses ⟨rfl, by decide +kernel, by decide +kernel, rfl⟩ rfl ⟨Nat.le_of_ble_eq_true rfl, Nat.le_of_ble_eq_true rfl⟩ rfl rfl ⟨rfl, rfl, rfl, by decide, rfl, rfl⟩ rfl rfl (Nat.le_of_ble_eq_true rfl) ⟨Nat.le_refl _, Nat.le_refl _⟩ dX8_repays_62 rfl rfl ?_
      obtain ⟨e1, e2⟩ := sg_pairE hF
      exact g_iret C hr rfl hQ hsz dX8_repays_65 e1.symm (by rw [e2])
  · refine g_aload_n 9 C dX8_repays_8 rfl rfl rfl ?_
    refine g_iconst 10 C (-1) dX8_repays_9 rfl (by decide) ?_
    obtain ⟨r32, τ30, q31, hF⟩ := sg_bnd2E hF
    refine g_callVi 13 C (w2 := (ww_X8 Y ad τ30)) (As := [.int (-1)]) (st := []) (n0 := 1) (ci := 9) (q0 := 0) [0, 1, 2, 3, 4, 5, 6, 7, 8, 9, 10, 11, 12] [] [0, 1, 2, 3, 4, 5, 6, 7, 8, 9, 10, 11, 12] (c_X8_fail l hZ (ad := ad) q31) gX8_repays_X8_fail ⟨rfl, by decide +kernel, by decide +kernel, rfl⟩ rfl ⟨Nat.le_of_ble_eq_true rfl, Nat.le_of_ble_eq_true rfl⟩ rfl rfl ⟨rfl, rfl, rfl, by decide, rfl, rfl⟩ rfl rfl (Nat.le_of_ble_eq_true rfl) ⟨Nat.le_refl _, Nat.le_refl _⟩ dX8_repays_10 rfl rfl ?_
    obtain ⟨e1, e2⟩ := sg_pairE hF
    exact g_iret C hr rfl hQ hsz dX8_repays_13 e1.symm (by rw [e2])
def f_X8_repay (x1 : Int32) (σ : sg_S) : Option (Int32 × sg_S) := sg_bnd (f_X8_begins  σ) (fun τ1 => sg_bnd2 (f_X8_repays x1 τ1) (fun r5 τ3 => sg_bnd2 (f_X8_ends r5 τ3) (fun r8 τ6 => some (r8, τ6))))
set_option maxHeartbeats 4000000 in
set_option maxRecDepth 100000 in
theorem c_X8_repay (l : Launch) {D : va_G} {Y : Nat → ClassId} {Z : (Nat → Prop) → State → Heap → Prop} (hZ : sg_Zok Z) {ad : Nat → Nat} {σ : sg_S} {σ' : sg_S} {x1 : Int32} {r : Int32} (hF : f_X8_repay x1 σ = some (r, σ')) : sg_MI l yX8_repay wsX8_repay 3 66 D Y Z [.ref (ad 0), .int x1] (ww_X8 Y ad σ) r (ww_X8 Y ad σ') := by
  intro sz
  refine sg_enter (own := RX8) (maxL := 2) (ret := (some .int)) (cc := cX8_repay) (by decide +kernel) rfl rfl (Nat.le_of_ble_eq_true rfl) hZ ?_
  intro p e s m args below meth c C hr Q hQ hsz
  refine g_lv (lv2 := [(0, .ref (ad 0)), (1, .int x1)]) [0, 1] rfl ?_
  rw [f_X8_repay] at hF
  refine g_aload_n 1 C dX8_repay_0 rfl rfl rfl ?_
  obtain ⟨τ1, q2, hF⟩ := sg_bndE hF
  refine g_callVv 4 C (w2 := (ww_X8 Y ad τ1)) (As := []) (st := []) (n0 := 0) (ci := 9) (q0 := 0) [0, 1, 2, 3, 4, 5, 6, 7, 8, 9, 10, 11, 12] [] [0, 1, 2, 3, 4, 5, 6, 7, 8, 9, 10, 11, 12] (c_X8_begins l hZ (ad := ad) q2) gX8_repay_X8_begins ⟨rfl, by decide +kernel, by decide +kernel, rfl⟩ rfl ⟨Nat.le_of_ble_eq_true rfl, Nat.le_of_ble_eq_true rfl⟩ rfl rfl ⟨rfl, rfl, rfl, by decide, rfl, rfl⟩ rfl rfl (Nat.le_of_ble_eq_true rfl) ⟨Nat.le_refl _, Nat.le_refl _⟩ dX8_repay_1 rfl rfl ?_
  refine g_aload_n 5 C dX8_repay_4 rfl rfl rfl ?_
  refine g_aload_n 6 C dX8_repay_5 rfl rfl rfl ?_
  refine g_iload_n 7 C dX8_repay_6 rfl rfl rfl ?_
  obtain ⟨r5, τ3, q4, hF⟩ := sg_bnd2E hF
  refine g_callVi 10 C (w2 := (ww_X8 Y ad τ3)) (As := [.int x1]) (st := [.ref (ad 0)]) (n0 := 1) (ci := 9) (q0 := 0) [0, 1, 2, 3, 4, 5, 6, 7, 8, 9, 10, 11, 12] [] [0, 1, 2, 3, 4, 5, 6, 7, 8, 9, 10, 11, 12] (c_X8_repays l hZ (ad := ad) q4) gX8_repay_X8_repays ⟨rfl, by decide +kernel, by decide +kernel, rfl⟩ rfl ⟨Nat.le_of_ble_eq_true rfl, Nat.le_of_ble_eq_true rfl⟩ rfl rfl ⟨rfl, rfl, rfl, by decide, rfl, rfl⟩ rfl rfl (Nat.le_of_ble_eq_true rfl) ⟨Nat.le_refl _, Nat.le_refl _⟩ dX8_repay_7 rfl rfl ?_
  obtain ⟨r8, τ6, q7, hF⟩ := sg_bnd2E hF
  refine g_callVi 13 C (w2 := (ww_X8 Y ad τ6)) (As := [.int r5]) (st := []) (n0 := 1) (ci := 9) (q0 := 0) [0, 1, 2, 3, 4, 5, 6, 7, 8, 9, 10, 11, 12] [] [0, 1, 2, 3, 4, 5, 6, 7, 8, 9, 10, 11, 12] (c_X8_ends l hZ (ad := ad) q7) gX8_repay_X8_ends ⟨rfl, by decide +kernel, by decide +kernel, rfl⟩ rfl ⟨Nat.le_of_ble_eq_true rfl, Nat.le_of_ble_eq_true rfl⟩ rfl rfl ⟨rfl, rfl, rfl, by decide, rfl, rfl⟩ rfl rfl (Nat.le_of_ble_eq_true rfl) ⟨Nat.le_refl _, Nat.le_refl _⟩ dX8_repay_10 rfl rfl ?_
  obtain ⟨e1, e2⟩ := sg_pairE hF
  exact g_iret C hr rfl hQ hsz dX8_repay_13 e1.symm (by rw [e2])
theorem kiX8_bails_X8 : ∀ w ∈ u_ws RX8 TX8 27, w ∈ wsX8_bails := by decide +kernel
theorem kfX8_bails_13 : Cond.fieldLink RX8 13 "WeatherMinistryModel" "v" "[I" ∈ wsX8_bails := by decide +kernel
def f_X8_bails_J119 (x1 : Int32) (x2 : Int32) (t0 : Int32) (t1 : Int32) (σz : sg_S) : Option (Int32 × sg_S) := sg_grd (sg_in t1 79) (sg_let (sg_up σz 1 (t1.toNatClampNeg) t0) (fun σ20 => sg_bnd (f_X8_at x1 3) (fun r21 => sg_grd (sg_in r21 79) (some (σ20 1 r21.toNatClampNeg, σ20)))))
def f_X8_bails (x1 : Int32) (x2 : Int32) (σ : sg_S) : Option (Int32 × sg_S) := sg_bnd (f_X8_isTown x1) (fun r1 => (if r1 = 0 then sg_bnd2 (f_X8_fail (-1) σ) (fun r35 τ33 => some (r35, τ33)) else sg_bnd (f_X8_isIn x2 1 9) (fun r3 => (if r3 = 0 then sg_bnd2 (f_X8_fail (-2) σ) (fun r32 τ30 => some (r32, τ30)) else sg_bnd (f_X8_at x1 2) (fun r5 => sg_grd (sg_in r5 79) (sg_let (σ 1 r5.toNatClampNeg) (fun y8 => sg_bnd (f_X8_at x1 3) (fun r9 => sg_grd (sg_in r9 79) (sg_let (σ 1 r9.toNatClampNeg) (fun y12 => (if y12 = 0 then sg_bnd2 (f_X8_refuses 5 y8 σ) (fun r29 τ27 => some (r29, τ27)) else (if y8 < x2 then sg_bnd2 (f_X8_refuses 6 y8 σ) (fun r26 τ24 => some (r26, τ24)) else sg_bnd (f_X8_at x1 2) (fun r13 => sg_grd (sg_in r13 79) (sg_let (sg_up σ 1 (r13.toNatClampNeg) ((σ 1 r13.toNatClampNeg) - x2)) (fun σ16 => sg_bnd (f_X8_at x1 3) (fun r17 => (if 3 * x2 < y12 then f_X8_bails_J119 x1 x2 (y12 - (3 * x2)) r17 σ16 else f_X8_bails_J119 x1 x2 0 r17 σ16)))))))))))))))))
set_option maxHeartbeats 4000000 in
set_option maxRecDepth 100000 in
theorem c_X8_bails (l : Launch) {D : va_G} {Y : Nat → ClassId} {Z : (Nat → Prop) → State → Heap → Prop} (hZ : sg_Zok Z) {ad : Nat → Nat} {σ : sg_S} {σ' : sg_S} {x1 x2 : Int32} {r : Int32} (hF : f_X8_bails x1 x2 σ = some (r, σ')) : sg_MI l yX8_bails wsX8_bails 2 43 D Y Z [.ref (ad 0), .int x1, .int x2] (ww_X8 Y ad σ) r (ww_X8 Y ad σ') := by
  intro sz
  refine sg_enter (own := RX8) (maxL := 5) (ret := (some .int)) (cc := cX8_bails) (by decide +kernel) rfl rfl (Nat.le_of_ble_eq_true rfl) hZ ?_
  intro p e s m args below meth c C hr Q hQ hsz
  refine g_lv (lv2 := [(0, .ref (ad 0)), (1, .int x1), (2, .int x2)]) [0, 1, 2] rfl ?_
  have K119 : ∀ (t0 : Int32) (t1 : Int32) (σz : sg_S), f_X8_bails_J119 x1 x2 t0 t1 σz = some (r, σ') → sg_G p l e ({ frames := 2, cells := 0, slots := 0, locals := 43 } : Room) s m args below meth c D (va_A (ww_X8 Y ad σ) s.heap.size) 5 0 0 Q 119 [(0, .ref (ad 0)), (1, .int x1)] [.int t0, .int t1, .ref (ad 1)] (ww_X8 Y ad σz) := by
    intro  t0 t1 σz hF
    rw [f_X8_bails_J119] at hF
    obtain ⟨h19, hF⟩ := sg_grdE hF
    obtain ⟨σ20, eσ20, hF⟩ := sg_letE hF
    refine g_iast 120 C (w2 := (ww_X8 Y ad σ20)) 1 dX8_bails_119 rfl rfl h19 (by rw [eσ20]; rfl) ?_
    refine g_aload_n 121 C dX8_bails_120 rfl rfl rfl ?_
    refine g_get 124 C (own := RX8) (C1 := RX8) (T := TX8) 0 8 (.ref (ad 1)) kiX8_bails_X8 kfX8_bails_13 rfl dX8_bails_121 rfl rfl rfl (by decide) rfl ?_
    refine g_iload_n 125 C dX8_bails_124 rfl rfl rfl ?_
    refine g_iconst 126 C 3 dX8_bails_125 rfl (by decide) ?_
    obtain ⟨r21, q22, hF⟩ := sg_bndE hF
    refine g_callSi 129 C (w2 := (ww_X8 Y ad σ20)) (As := [.int x1, .int 3]) (st := [.ref (ad 1)]) (n0 := 2) [] [0, 1, 2, 3, 4, 5, 6, 7, 8, 9, 10, 11, 12] [0, 1, 2, 3, 4, 5, 6, 7, 8, 9, 10, 11, 12] (c_X8_at l hZ (ad := ad) (σ := σ20) q22) gX8_bails_X8_at ⟨by decide +kernel, by decide +kernel, rfl⟩ rfl ⟨Nat.le_of_ble_eq_true rfl, Nat.le_of_ble_eq_true rfl⟩ ⟨rfl, rfl, rfl, by decide, rfl, rfl⟩ rfl rfl (Nat.le_of_ble_eq_true rfl) ⟨Nat.le_refl _, Nat.le_refl _⟩ dX8_bails_126 rfl rfl ?_
    obtain ⟨h23, hF⟩ := sg_grdE hF
    refine g_ialdc 130 C 1 (r21.toNatClampNeg) (σ20 1 r21.toNatClampNeg) dX8_bails_129 rfl rfl rfl h23 rfl ?_
    obtain ⟨e1, e2⟩ := sg_pairE hF
    exact g_iret C hr rfl hQ hsz dX8_bails_130 e1.symm (by rw [e2])
  rw [f_X8_bails] at hF
  refine g_iload_n 1 C dX8_bails_0 rfl rfl rfl ?_
  obtain ⟨r1, q2, hF⟩ := sg_bndE hF
  refine g_callSi 4 C (w2 := (ww_X8 Y ad σ)) (As := [.int x1]) (st := []) (n0 := 1) [] [0, 1, 2, 3, 4, 5, 6, 7, 8, 9, 10, 11, 12] [0, 1, 2, 3, 4, 5, 6, 7, 8, 9, 10, 11, 12] (c_X8_isTown l hZ (ad := ad) (σ := σ) q2) gX8_bails_X8_isTown ⟨by decide +kernel, by decide +kernel, rfl⟩ rfl ⟨Nat.le_of_ble_eq_true rfl, Nat.le_of_ble_eq_true rfl⟩ ⟨rfl, rfl, rfl, by decide, rfl, rfl⟩ rfl rfl (Nat.le_of_ble_eq_true rfl) ⟨Nat.le_refl _, Nat.le_refl _⟩ dX8_bails_1 rfl rfl ?_
  refine g_if_ne 7 13 C dX8_bails_4 (by decide) rfl hF (fun hF => ?_) (fun hF => ?_)
  · refine g_iload_n 14 C dX8_bails_13 rfl rfl rfl ?_
    refine g_iconst 15 C 1 dX8_bails_14 rfl (by decide) ?_
    refine g_bipush 17 C 9 dX8_bails_15 rfl (by decide) ?_
    obtain ⟨r3, q4, hF⟩ := sg_bndE hF
    refine g_callSi 20 C (w2 := (ww_X8 Y ad σ)) (As := [.int x2, .int 1, .int 9]) (st := []) (n0 := 3) [] [0, 1, 2, 3, 4, 5, 6, 7, 8, 9, 10, 11, 12] [0, 1, 2, 3, 4, 5, 6, 7, 8, 9, 10, 11, 12] (c_X8_isIn l hZ (ad := ad) (σ := σ) q4) gX8_bails_X8_isIn ⟨by decide +kernel, by decide +kernel, rfl⟩ rfl ⟨Nat.le_of_ble_eq_true rfl, Nat.le_of_ble_eq_true rfl⟩ ⟨rfl, rfl, rfl, by decide, rfl, rfl⟩ rfl rfl (Nat.le_of_ble_eq_true rfl) ⟨Nat.le_refl _, Nat.le_refl _⟩ dX8_bails_17 rfl rfl ?_
    refine g_if_ne 23 30 C dX8_bails_20 (by decide) rfl hF (fun hF => ?_) (fun hF => ?_)
    · refine g_aload_n 31 C dX8_bails_30 rfl rfl rfl ?_
      refine g_get 34 C (own := RX8) (C1 := RX8) (T := TX8) 0 8 (.ref (ad 1)) kiX8_bails_X8 kfX8_bails_13 rfl dX8_bails_31 rfl rfl rfl (by decide) rfl ?_
      refine g_iload_n 35 C dX8_bails_34 rfl rfl rfl ?_
      refine g_iconst 36 C 2 dX8_bails_35 rfl (by decide) ?_
      obtain ⟨r5, q6, hF⟩ := sg_bndE hF
      refine g_callSi 39 C (w2 := (ww_X8 Y ad σ)) (As := [.int x1, .int 2]) (st := [.ref (ad 1)]) (n0 := 2) [] [0, 1, 2, 3, 4, 5, 6, 7, 8, 9, 10, 11, 12] [0, 1, 2, 3, 4, 5, 6, 7, 8, 9, 10, 11, 12] (c_X8_at l hZ (ad := ad) (σ := σ) q6) gX8_bails_X8_at ⟨by decide +kernel, by decide +kernel, rfl⟩ rfl ⟨Nat.le_of_ble_eq_true rfl, Nat.le_of_ble_eq_true rfl⟩ ⟨rfl, rfl, rfl, by decide, rfl, rfl⟩ rfl rfl (Nat.le_of_ble_eq_true rfl) ⟨Nat.le_refl _, Nat.le_refl _⟩ dX8_bails_36 rfl rfl ?_
      obtain ⟨h7, hF⟩ := sg_grdE hF
      refine g_ialdc 40 C 1 (r5.toNatClampNeg) (σ 1 r5.toNatClampNeg) dX8_bails_39 rfl rfl rfl h7 rfl ?_
      obtain ⟨y8, ey8, hF⟩ := sg_letE hF
      refine g_top ey8 ?_
      refine g_istore_n 41 C [(3, .int y8), (0, .ref (ad 0)), (1, .int x1), (2, .int x2)] dX8_bails_40 rfl rfl (by decide) rfl ?_
      refine g_aload_n 42 C dX8_bails_41 rfl rfl rfl ?_
      refine g_get 45 C (own := RX8) (C1 := RX8) (T := TX8) 0 8 (.ref (ad 1)) kiX8_bails_X8 kfX8_bails_13 rfl dX8_bails_42 rfl rfl rfl (by decide) rfl ?_
      refine g_iload_n 46 C dX8_bails_45 rfl rfl rfl ?_
      refine g_iconst 47 C 3 dX8_bails_46 rfl (by decide) ?_
      obtain ⟨r9, q10, hF⟩ := sg_bndE hF
      refine g_callSi 50 C (w2 := (ww_X8 Y ad σ)) (As := [.int x1, .int 3]) (st := [.ref (ad 1)]) (n0 := 2) [] [0, 1, 2, 3, 4, 5, 6, 7, 8, 9, 10, 11, 12] [0, 1, 2, 3, 4, 5, 6, 7, 8, 9, 10, 11, 12] (c_X8_at l hZ (ad := ad) (σ := σ) q10) gX8_bails_X8_at ⟨by decide +kernel, by decide +kernel, rfl⟩ rfl ⟨Nat.le_of_ble_eq_true rfl, Nat.le_of_ble_eq_true rfl⟩ ⟨rfl, rfl, rfl, by decide, rfl, rfl⟩ rfl rfl (Nat.le_of_ble_eq_true rfl) ⟨Nat.le_refl _, Nat.le_refl _⟩ dX8_bails_47 rfl rfl ?_
      obtain ⟨h11, hF⟩ := sg_grdE hF
      refine g_ialdc 51 C 1 (r9.toNatClampNeg) (σ 1 r9.toNatClampNeg) dX8_bails_50 rfl rfl rfl h11 rfl ?_
      obtain ⟨y12, ey12, hF⟩ := sg_letE hF
      refine g_top ey12 ?_
      refine g_istore 53 C [(4, .int y12), (3, .int y8), (0, .ref (ad 0)), (1, .int x1), (2, .int x2)] dX8_bails_51 rfl (by decide) rfl ?_
      refine g_iload 55 C dX8_bails_53 rfl rfl ?_
      refine g_if_ne 58 65 C dX8_bails_55 (by decide) rfl hF (fun hF => ?_) (fun hF => ?_)
      · refine g_iload_n 66 C dX8_bails_65 rfl rfl rfl ?_
        refine g_iload_n 67 C dX8_bails_66 rfl rfl rfl ?_
        refine g_icmp_ge 70 78 C dX8_bails_67 (by decide) rfl hF (fun hF => ?_) (fun hF => ?_)
        · refine g_aload_n 79 C dX8_bails_78 rfl rfl rfl ?_
          refine g_get 82 C (own := RX8) (C1 := RX8) (T := TX8) 0 8 (.ref (ad 1)) kiX8_bails_X8 kfX8_bails_13 rfl dX8_bails_79 rfl rfl rfl (by decide) rfl ?_
          refine g_iload_n 83 C dX8_bails_82 rfl rfl rfl ?_
          refine g_iconst 84 C 2 dX8_bails_83 rfl (by decide) ?_
          obtain ⟨r13, q14, hF⟩ := sg_bndE hF
          refine g_callSi 87 C (w2 := (ww_X8 Y ad σ)) (As := [.int x1, .int 2]) (st := [.ref (ad 1)]) (n0 := 2) [] [0, 1, 2, 3, 4, 5, 6, 7, 8, 9, 10, 11, 12] [0, 1, 2, 3, 4, 5, 6, 7, 8, 9, 10, 11, 12] (c_X8_at l hZ (ad := ad) (σ := σ) q14) gX8_bails_X8_at ⟨by decide +kernel, by decide +kernel, rfl⟩ rfl ⟨Nat.le_of_ble_eq_true rfl, Nat.le_of_ble_eq_true rfl⟩ ⟨rfl, rfl, rfl, by decide, rfl, rfl⟩ rfl rfl (Nat.le_of_ble_eq_true rfl) ⟨Nat.le_refl _, Nat.le_refl _⟩ dX8_bails_84 rfl rfl ?_
          refine g_dup2 88 C dX8_bails_87 rfl rfl rfl ?_
          obtain ⟨h15, hF⟩ := sg_grdE hF
          refine g_ialdc 89 C 1 (r13.toNatClampNeg) (σ 1 r13.toNatClampNeg) dX8_bails_88 rfl rfl rfl h15 rfl ?_
          refine g_iload_n 90 C dX8_bails_89 rfl rfl rfl ?_
          refine g_isub 91 C dX8_bails_90 rfl ?_
          obtain ⟨σ16, eσ16, hF⟩ := sg_letE hF
          refine g_iast 92 C (w2 := (ww_X8 Y ad σ16)) 1 dX8_bails_91 rfl rfl h15 (by rw [eσ16]; rfl) ?_
          refine g_aload_n 93 C dX8_bails_92 rfl rfl rfl ?_
          refine g_get 96 C (own := RX8) (C1 := RX8) (T := TX8) 0 8 (.ref (ad 1)) kiX8_bails_X8 kfX8_bails_13 rfl dX8_bails_93 rfl rfl rfl (by decide) rfl ?_
          refine g_iload_n 97 C dX8_bails_96 rfl rfl rfl ?_
          refine g_iconst 98 C 3 dX8_bails_97 rfl (by decide) ?_
          obtain ⟨r17, q18, hF⟩ := sg_bndE hF
          refine g_callSi 101 C (w2 := (ww_X8 Y ad σ16)) (As := [.int x1, .int 3]) (st := [.ref (ad 1)]) (n0 := 2) [] [0, 1, 2, 3, 4, 5, 6, 7, 8, 9, 10, 11, 12] [0, 1, 2, 3, 4, 5, 6, 7, 8, 9, 10, 11, 12] (c_X8_at l hZ (ad := ad) (σ := σ16) q18) gX8_bails_X8_at ⟨by decide +kernel, by decide +kernel, rfl⟩ rfl ⟨Nat.le_of_ble_eq_true rfl, Nat.le_of_ble_eq_true rfl⟩ ⟨rfl, rfl, rfl, by decide, rfl, rfl⟩ rfl rfl (Nat.le_of_ble_eq_true rfl) ⟨Nat.le_refl _, Nat.le_refl _⟩ dX8_bails_98 rfl rfl ?_
          refine g_iload 103 C dX8_bails_101 rfl rfl ?_
          refine g_iconst 104 C 3 dX8_bails_103 rfl (by decide) ?_
          refine g_iload_n 105 C dX8_bails_104 rfl rfl rfl ?_
          refine g_imul 106 C dX8_bails_105 rfl ?_
          refine g_icmp_le 109 118 C dX8_bails_106 (by decide) rfl hF (fun hF => ?_) (fun hF => ?_)
          · refine g_iconst 119 C 0 dX8_bails_118 rfl (by decide) ?_
            refine g_lv (lv2 := [(0, .ref (ad 0)), (1, .int x1)]) [2, 3] rfl ?_
            exact K119  0 r17 σ16 hF
          · refine g_iload 111 C dX8_bails_109 rfl rfl ?_
            refine g_iconst 112 C 3 dX8_bails_111 rfl (by decide) ?_
            refine g_iload_n 113 C dX8_bails_112 rfl rfl rfl ?_
            refine g_imul 114 C dX8_bails_113 rfl ?_
            refine g_isub 115 C dX8_bails_114 rfl ?_
            refine g_goto 119 C dX8_bails_115 (by decide) ?_
            refine g_lv (lv2 := [(0, .ref (ad 0)), (1, .int x1)]) [2, 3] rfl ?_
            exact K119  (y12 - (3 * x2)) r17 σ16 hF
        · refine g_aload_n 71 C dX8_bails_70 rfl rfl rfl ?_
          refine g_bipush 73 C 6 dX8_bails_71 rfl (by decide) ?_
          refine g_iload_n 74 C dX8_bails_73 rfl rfl rfl ?_
          obtain ⟨r26, τ24, q25, hF⟩ := sg_bnd2E hF
          refine g_callVi 77 C (w2 := (ww_X8 Y ad τ24)) (As := [.int 6, .int y8]) (st := []) (n0 := 2) (ci := 9) (q0 := 0) [0, 1, 2, 3, 4, 5, 6, 7, 8, 9, 10, 11, 12] [] [0, 1, 2, 3, 4, 5, 6, 7, 8, 9, 10, 11, 12] (c_X8_refuses l hZ (ad := ad) q25) gX8_bails_X8_refuses ⟨rfl, by decide +kernel, by decide +kernel, rfl⟩ rfl ⟨Nat.le_of_ble_eq_true rfl, Nat.le_of_ble_eq_true rfl⟩ rfl rfl ⟨rfl, rfl, rfl, by decide, rfl, rfl⟩ rfl rfl (Nat.le_of_ble_eq_true rfl) ⟨Nat.le_refl _, Nat.le_refl _⟩ dX8_bails_74 rfl rfl ?_
          obtain ⟨e1, e2⟩ := sg_pairE hF
          exact g_iret C hr rfl hQ hsz dX8_bails_77 e1.symm (by rw [e2])
      · refine g_aload_n 59 C dX8_bails_58 rfl rfl rfl ?_
        refine g_iconst 60 C 5 dX8_bails_59 rfl (by decide) ?_
        refine g_iload_n 61 C dX8_bails_60 rfl rfl rfl ?_
        obtain ⟨r29, τ27, q28, hF⟩ := sg_bnd2E hF
        refine g_callVi 64 C (w2 := (ww_X8 Y ad τ27)) (As := [.int 5, .int y8]) (st := []) (n0 := 2) (ci := 9) (q0 := 0) [0, 1, 2, 3, 4, 5, 6, 7, 8, 9, 10, 11, 12] [] [0, 1, 2, 3, 4, 5, 6, 7, 8, 9, 10, 11, 12] (c_X8_refuses l hZ (ad := ad) q28) gX8_bails_X8_refuses ⟨rfl, by decide +kernel, by decide +kernel, rfl⟩ rfl ⟨Nat.le_of_ble_eq_true rfl, Nat.le_of_ble_eq_true rfl⟩ rfl rfl ⟨rfl, rfl, rfl, by decide, rfl, rfl⟩ rfl rfl (Nat.le_of_ble_eq_true rfl) ⟨Nat.le_refl _, Nat.le_refl _⟩ dX8_bails_61 rfl rfl ?_
        obtain ⟨e1, e2⟩ := sg_pairE hF
        exact g_iret C hr rfl hQ hsz dX8_bails_64 e1.symm (by rw [e2])
    · refine g_aload_n 24 C dX8_bails_23 rfl rfl rfl ?_
      refine g_bipush 26 C (-2) dX8_bails_24 rfl (by decide) ?_
      obtain ⟨r32, τ30, q31, hF⟩ := sg_bnd2E hF
      refine g_callVi 29 C (w2 := (ww_X8 Y ad τ30)) (As := [.int (-2)]) (st := []) (n0 := 1) (ci := 9) (q0 := 0) [0, 1, 2, 3, 4, 5, 6, 7, 8, 9, 10, 11, 12] [] [0, 1, 2, 3, 4, 5, 6, 7, 8, 9, 10, 11, 12] (c_X8_fail l hZ (ad := ad) q31) gX8_bails_X8_fail ⟨rfl, by decide +kernel, by decide +kernel, rfl⟩ rfl ⟨Nat.le_of_ble_eq_true rfl, Nat.le_of_ble_eq_true rfl⟩ rfl rfl ⟨rfl, rfl, rfl, by decide, rfl, rfl⟩ rfl rfl (Nat.le_of_ble_eq_true rfl) ⟨Nat.le_refl _, Nat.le_refl _⟩ dX8_bails_26 rfl rfl ?_
      obtain ⟨e1, e2⟩ := sg_pairE hF
      exact g_iret C hr rfl hQ hsz dX8_bails_29 e1.symm (by rw [e2])
  · refine g_aload_n 8 C dX8_bails_7 rfl rfl rfl ?_
    refine g_iconst 9 C (-1) dX8_bails_8 rfl (by decide) ?_
    obtain ⟨r35, τ33, q34, hF⟩ := sg_bnd2E hF
    refine g_callVi 12 C (w2 := (ww_X8 Y ad τ33)) (As := [.int (-1)]) (st := []) (n0 := 1) (ci := 9) (q0 := 0) [0, 1, 2, 3, 4, 5, 6, 7, 8, 9, 10, 11, 12] [] [0, 1, 2, 3, 4, 5, 6, 7, 8, 9, 10, 11, 12] (c_X8_fail l hZ (ad := ad) q34) gX8_bails_X8_fail ⟨rfl, by decide +kernel, by decide +kernel, rfl⟩ rfl ⟨Nat.le_of_ble_eq_true rfl, Nat.le_of_ble_eq_true rfl⟩ rfl rfl ⟨rfl, rfl, rfl, by decide, rfl, rfl⟩ rfl rfl (Nat.le_of_ble_eq_true rfl) ⟨Nat.le_refl _, Nat.le_refl _⟩ dX8_bails_9 rfl rfl ?_
    obtain ⟨e1, e2⟩ := sg_pairE hF
    exact g_iret C hr rfl hQ hsz dX8_bails_12 e1.symm (by rw [e2])
def f_X8_bail (x1 : Int32) (x2 : Int32) (σ : sg_S) : Option (Int32 × sg_S) := sg_bnd (f_X8_begins  σ) (fun τ1 => sg_bnd2 (f_X8_bails x1 x2 τ1) (fun r5 τ3 => sg_bnd2 (f_X8_ends r5 τ3) (fun r8 τ6 => some (r8, τ6))))
set_option maxHeartbeats 4000000 in
set_option maxRecDepth 100000 in
theorem c_X8_bail (l : Launch) {D : va_G} {Y : Nat → ClassId} {Z : (Nat → Prop) → State → Heap → Prop} (hZ : sg_Zok Z) {ad : Nat → Nat} {σ : sg_S} {σ' : sg_S} {x1 x2 : Int32} {r : Int32} (hF : f_X8_bail x1 x2 σ = some (r, σ')) : sg_MI l yX8_bail wsX8_bail 3 67 D Y Z [.ref (ad 0), .int x1, .int x2] (ww_X8 Y ad σ) r (ww_X8 Y ad σ') := by
  intro sz
  refine sg_enter (own := RX8) (maxL := 3) (ret := (some .int)) (cc := cX8_bail) (by decide +kernel) rfl rfl (Nat.le_of_ble_eq_true rfl) hZ ?_
  intro p e s m args below meth c C hr Q hQ hsz
  refine g_lv (lv2 := [(0, .ref (ad 0)), (1, .int x1), (2, .int x2)]) [0, 1, 2] rfl ?_
  rw [f_X8_bail] at hF
  refine g_aload_n 1 C dX8_bail_0 rfl rfl rfl ?_
  obtain ⟨τ1, q2, hF⟩ := sg_bndE hF
  refine g_callVv 4 C (w2 := (ww_X8 Y ad τ1)) (As := []) (st := []) (n0 := 0) (ci := 9) (q0 := 0) [0, 1, 2, 3, 4, 5, 6, 7, 8, 9, 10, 11, 12] [] [0, 1, 2, 3, 4, 5, 6, 7, 8, 9, 10, 11, 12] (c_X8_begins l hZ (ad := ad) q2) gX8_bail_X8_begins ⟨rfl, by decide +kernel, by decide +kernel, rfl⟩ rfl ⟨Nat.le_of_ble_eq_true rfl, Nat.le_of_ble_eq_true rfl⟩ rfl rfl ⟨rfl, rfl, rfl, by decide, rfl, rfl⟩ rfl rfl (Nat.le_of_ble_eq_true rfl) ⟨Nat.le_refl _, Nat.le_refl _⟩ dX8_bail_1 rfl rfl ?_
  refine g_aload_n 5 C dX8_bail_4 rfl rfl rfl ?_
  refine g_aload_n 6 C dX8_bail_5 rfl rfl rfl ?_
  refine g_iload_n 7 C dX8_bail_6 rfl rfl rfl ?_
  refine g_iload_n 8 C dX8_bail_7 rfl rfl rfl ?_
  obtain ⟨r5, τ3, q4, hF⟩ := sg_bnd2E hF
  refine g_callVi 11 C (w2 := (ww_X8 Y ad τ3)) (As := [.int x1, .int x2]) (st := [.ref (ad 0)]) (n0 := 2) (ci := 9) (q0 := 0) [0, 1, 2, 3, 4, 5, 6, 7, 8, 9, 10, 11, 12] [] [0, 1, 2, 3, 4, 5, 6, 7, 8, 9, 10, 11, 12] (c_X8_bails l hZ (ad := ad) q4) gX8_bail_X8_bails ⟨rfl, by decide +kernel, by decide +kernel, rfl⟩ rfl ⟨Nat.le_of_ble_eq_true rfl, Nat.le_of_ble_eq_true rfl⟩ rfl rfl ⟨rfl, rfl, rfl, by decide, rfl, rfl⟩ rfl rfl (Nat.le_of_ble_eq_true rfl) ⟨Nat.le_refl _, Nat.le_refl _⟩ dX8_bail_8 rfl rfl ?_
  obtain ⟨r8, τ6, q7, hF⟩ := sg_bnd2E hF
  refine g_callVi 14 C (w2 := (ww_X8 Y ad τ6)) (As := [.int r5]) (st := []) (n0 := 1) (ci := 9) (q0 := 0) [0, 1, 2, 3, 4, 5, 6, 7, 8, 9, 10, 11, 12] [] [0, 1, 2, 3, 4, 5, 6, 7, 8, 9, 10, 11, 12] (c_X8_ends l hZ (ad := ad) q7) gX8_bail_X8_ends ⟨rfl, by decide +kernel, by decide +kernel, rfl⟩ rfl ⟨Nat.le_of_ble_eq_true rfl, Nat.le_of_ble_eq_true rfl⟩ rfl rfl ⟨rfl, rfl, rfl, by decide, rfl, rfl⟩ rfl rfl (Nat.le_of_ble_eq_true rfl) ⟨Nat.le_refl _, Nat.le_refl _⟩ dX8_bail_11 rfl rfl ?_
  obtain ⟨e1, e2⟩ := sg_pairE hF
  exact g_iret C hr rfl hQ hsz dX8_bail_14 e1.symm (by rw [e2])
theorem kiX8_buys_X8 : ∀ w ∈ u_ws RX8 TX8 27, w ∈ wsX8_buys := by decide +kernel
theorem kfX8_buys_13 : Cond.fieldLink RX8 13 "WeatherMinistryModel" "v" "[I" ∈ wsX8_buys := by decide +kernel
def f_X8_buys (x1 : Int32) (σ : sg_S) : Option (Int32 × sg_S) := sg_bnd (f_X8_isTown x1) (fun r1 => (if r1 = 0 then sg_bnd2 (f_X8_fail (-1) σ) (fun r32 τ30 => some (r32, τ30)) else sg_bnd (f_X8_at x1 2) (fun r3 => sg_grd (sg_in r3 79) ((if σ 1 r3.toNatClampNeg = 9 then sg_bnd2 (f_X8_refuses 1 9 σ) (fun r29 τ27 => some (r29, τ27)) else sg_bnd (f_X8_at x1 0) (fun r6 => sg_grd (sg_in r6 79) ((if σ 1 r6.toNatClampNeg < 4 then sg_bnd (f_X8_at x1 0) (fun r21 => sg_grd (sg_in r21 79) (sg_bnd2 (f_X8_refuses 4 (σ 1 r21.toNatClampNeg) σ) (fun r26 τ24 => some (r26, τ24)))) else sg_bnd (f_X8_at x1 0) (fun r9 => sg_grd (sg_in r9 79) (sg_let (sg_up σ 1 (r9.toNatClampNeg) ((σ 1 r9.toNatClampNeg) - 4)) (fun σ12 => sg_bnd (f_X8_at x1 2) (fun r13 => sg_grd (sg_in r13 79) (sg_let (sg_up σ12 1 (r13.toNatClampNeg) ((σ12 1 r13.toNatClampNeg) + 1)) (fun σ16 => sg_let (sg_up σ16 1 9 ((σ16 1 9) + 1)) (fun σ17 => sg_bnd (f_X8_at x1 2) (fun r18 => sg_grd (sg_in r18 79) (some (σ17 1 r18.toNatClampNeg, σ17))))))))))))))))))
set_option maxHeartbeats 4000000 in
set_option maxRecDepth 100000 in
theorem c_X8_buys (l : Launch) {D : va_G} {Y : Nat → ClassId} {Z : (Nat → Prop) → State → Heap → Prop} (hZ : sg_Zok Z) {ad : Nat → Nat} {σ : sg_S} {σ' : sg_S} {x1 : Int32} {r : Int32} (hF : f_X8_buys x1 σ = some (r, σ')) : sg_MI l yX8_buys wsX8_buys 2 43 D Y Z [.ref (ad 0), .int x1] (ww_X8 Y ad σ) r (ww_X8 Y ad σ') := by
  intro sz
  refine sg_enter (own := RX8) (maxL := 2) (ret := (some .int)) (cc := cX8_buys) (by decide +kernel) rfl rfl (Nat.le_of_ble_eq_true rfl) hZ ?_
  intro p e s m args below meth c C hr Q hQ hsz
  refine g_lv (lv2 := [(0, .ref (ad 0)), (1, .int x1)]) [0, 1] rfl ?_
  rw [f_X8_buys] at hF
  refine g_iload_n 1 C dX8_buys_0 rfl rfl rfl ?_
  obtain ⟨r1, q2, hF⟩ := sg_bndE hF
  refine g_callSi 4 C (w2 := (ww_X8 Y ad σ)) (As := [.int x1]) (st := []) (n0 := 1) [] [0, 1, 2, 3, 4, 5, 6, 7, 8, 9, 10, 11, 12] [0, 1, 2, 3, 4, 5, 6, 7, 8, 9, 10, 11, 12] (c_X8_isTown l hZ (ad := ad) (σ := σ) q2) gX8_buys_X8_isTown ⟨by decide +kernel, by decide +kernel, rfl⟩ rfl ⟨Nat.le_of_ble_eq_true rfl, Nat.le_of_ble_eq_true rfl⟩ ⟨rfl, rfl, rfl, by decide, rfl, rfl⟩ rfl rfl (Nat.le_of_ble_eq_true rfl) ⟨Nat.le_refl _, Nat.le_refl _⟩ dX8_buys_1 rfl rfl ?_
  refine g_if_ne 7 13 C dX8_buys_4 (by decide) rfl hF (fun hF => ?_) (fun hF => ?_)
  · refine g_aload_n 14 C dX8_buys_13 rfl rfl rfl ?_
    refine g_get 17 C (own := RX8) (C1 := RX8) (T := TX8) 0 8 (.ref (ad 1)) kiX8_buys_X8 kfX8_buys_13 rfl dX8_buys_14 rfl rfl rfl (by decide) rfl ?_
    refine g_iload_n 18 C dX8_buys_17 rfl rfl rfl ?_
    refine g_iconst 19 C 2 dX8_buys_18 rfl (by decide) ?_
    obtain ⟨r3, q4, hF⟩ := sg_bndE hF
    refine g_callSi 22 C (w2 := (ww_X8 Y ad σ)) (As := [.int x1, .int 2]) (st := [.ref (ad 1)]) (n0 := 2) [] [0, 1, 2, 3, 4, 5, 6, 7, 8, 9, 10, 11, 12] [0, 1, 2, 3, 4, 5, 6, 7, 8, 9, 10, 11, 12] (c_X8_at l hZ (ad := ad) (σ := σ) q4) gX8_buys_X8_at ⟨by decide +kernel, by decide +kernel, rfl⟩ rfl ⟨Nat.le_of_ble_eq_true rfl, Nat.le_of_ble_eq_true rfl⟩ ⟨rfl, rfl, rfl, by decide, rfl, rfl⟩ rfl rfl (Nat.le_of_ble_eq_true rfl) ⟨Nat.le_refl _, Nat.le_refl _⟩ dX8_buys_19 rfl rfl ?_
    obtain ⟨h5, hF⟩ := sg_grdE hF
    refine g_ialdc 23 C 1 (r3.toNatClampNeg) (σ 1 r3.toNatClampNeg) dX8_buys_22 rfl rfl rfl h5 rfl ?_
    refine g_bipush 25 C 9 dX8_buys_23 rfl (by decide) ?_
    refine g_icmp_ne 28 36 C dX8_buys_25 (by decide) rfl hF (fun hF => ?_) (fun hF => ?_)
    · refine g_aload_n 37 C dX8_buys_36 rfl rfl rfl ?_
      refine g_get 40 C (own := RX8) (C1 := RX8) (T := TX8) 0 8 (.ref (ad 1)) kiX8_buys_X8 kfX8_buys_13 rfl dX8_buys_37 rfl rfl rfl (by decide) rfl ?_
      refine g_iload_n 41 C dX8_buys_40 rfl rfl rfl ?_
      refine g_iconst 42 C 0 dX8_buys_41 rfl (by decide) ?_
      obtain ⟨r6, q7, hF⟩ := sg_bndE hF
      refine g_callSi 45 C (w2 := (ww_X8 Y ad σ)) (As := [.int x1, .int 0]) (st := [.ref (ad 1)]) (n0 := 2) [] [0, 1, 2, 3, 4, 5, 6, 7, 8, 9, 10, 11, 12] [0, 1, 2, 3, 4, 5, 6, 7, 8, 9, 10, 11, 12] (c_X8_at l hZ (ad := ad) (σ := σ) q7) gX8_buys_X8_at ⟨by decide +kernel, by decide +kernel, rfl⟩ rfl ⟨Nat.le_of_ble_eq_true rfl, Nat.le_of_ble_eq_true rfl⟩ ⟨rfl, rfl, rfl, by decide, rfl, rfl⟩ rfl rfl (Nat.le_of_ble_eq_true rfl) ⟨Nat.le_refl _, Nat.le_refl _⟩ dX8_buys_42 rfl rfl ?_
      obtain ⟨h8, hF⟩ := sg_grdE hF
      refine g_ialdc 46 C 1 (r6.toNatClampNeg) (σ 1 r6.toNatClampNeg) dX8_buys_45 rfl rfl rfl h8 rfl ?_
      refine g_iconst 47 C 4 dX8_buys_46 rfl (by decide) ?_
      refine g_icmp_ge 50 66 C dX8_buys_47 (by decide) rfl hF (fun hF => ?_) (fun hF => ?_)
      · refine g_aload_n 67 C dX8_buys_66 rfl rfl rfl ?_
        refine g_get 70 C (own := RX8) (C1 := RX8) (T := TX8) 0 8 (.ref (ad 1)) kiX8_buys_X8 kfX8_buys_13 rfl dX8_buys_67 rfl rfl rfl (by decide) rfl ?_
        refine g_iload_n 71 C dX8_buys_70 rfl rfl rfl ?_
        refine g_iconst 72 C 0 dX8_buys_71 rfl (by decide) ?_
        obtain ⟨r9, q10, hF⟩ := sg_bndE hF
        refine g_callSi 75 C (w2 := (ww_X8 Y ad σ)) (As := [.int x1, .int 0]) (st := [.ref (ad 1)]) (n0 := 2) [] [0, 1, 2, 3, 4, 5, 6, 7, 8, 9, 10, 11, 12] [0, 1, 2, 3, 4, 5, 6, 7, 8, 9, 10, 11, 12] (c_X8_at l hZ (ad := ad) (σ := σ) q10) gX8_buys_X8_at ⟨by decide +kernel, by decide +kernel, rfl⟩ rfl ⟨Nat.le_of_ble_eq_true rfl, Nat.le_of_ble_eq_true rfl⟩ ⟨rfl, rfl, rfl, by decide, rfl, rfl⟩ rfl rfl (Nat.le_of_ble_eq_true rfl) ⟨Nat.le_refl _, Nat.le_refl _⟩ dX8_buys_72 rfl rfl ?_
        refine g_dup2 76 C dX8_buys_75 rfl rfl rfl ?_
        obtain ⟨h11, hF⟩ := sg_grdE hF
        refine g_ialdc 77 C 1 (r9.toNatClampNeg) (σ 1 r9.toNatClampNeg) dX8_buys_76 rfl rfl rfl h11 rfl ?_
        refine g_iconst 78 C 4 dX8_buys_77 rfl (by decide) ?_
        refine g_isub 79 C dX8_buys_78 rfl ?_
        obtain ⟨σ12, eσ12, hF⟩ := sg_letE hF
        refine g_iast 80 C (w2 := (ww_X8 Y ad σ12)) 1 dX8_buys_79 rfl rfl h11 (by rw [eσ12]; rfl) ?_
        refine g_aload_n 81 C dX8_buys_80 rfl rfl rfl ?_
        refine g_get 84 C (own := RX8) (C1 := RX8) (T := TX8) 0 8 (.ref (ad 1)) kiX8_buys_X8 kfX8_buys_13 rfl dX8_buys_81 rfl rfl rfl (by decide) rfl ?_
        refine g_iload_n 85 C dX8_buys_84 rfl rfl rfl ?_
        refine g_iconst 86 C 2 dX8_buys_85 rfl (by decide) ?_
        obtain ⟨r13, q14, hF⟩ := sg_bndE hF
        refine g_callSi 89 C (w2 := (ww_X8 Y ad σ12)) (As := [.int x1, .int 2]) (st := [.ref (ad 1)]) (n0 := 2) [] [0, 1, 2, 3, 4, 5, 6, 7, 8, 9, 10, 11, 12] [0, 1, 2, 3, 4, 5, 6, 7, 8, 9, 10, 11, 12] (c_X8_at l hZ (ad := ad) (σ := σ12) q14) gX8_buys_X8_at ⟨by decide +kernel, by decide +kernel, rfl⟩ rfl ⟨Nat.le_of_ble_eq_true rfl, Nat.le_of_ble_eq_true rfl⟩ ⟨rfl, rfl, rfl, by decide, rfl, rfl⟩ rfl rfl (Nat.le_of_ble_eq_true rfl) ⟨Nat.le_refl _, Nat.le_refl _⟩ dX8_buys_86 rfl rfl ?_
        refine g_dup2 90 C dX8_buys_89 rfl rfl rfl ?_
        obtain ⟨h15, hF⟩ := sg_grdE hF
        refine g_ialdc 91 C 1 (r13.toNatClampNeg) (σ12 1 r13.toNatClampNeg) dX8_buys_90 rfl rfl rfl h15 rfl ?_
        refine g_iconst 92 C 1 dX8_buys_91 rfl (by decide) ?_
        refine g_iadd 93 C dX8_buys_92 rfl ?_
        obtain ⟨σ16, eσ16, hF⟩ := sg_letE hF
        refine g_iast 94 C (w2 := (ww_X8 Y ad σ16)) 1 dX8_buys_93 rfl rfl h15 (by rw [eσ16]; rfl) ?_
        refine g_aload_n 95 C dX8_buys_94 rfl rfl rfl ?_
        refine g_get 98 C (own := RX8) (C1 := RX8) (T := TX8) 0 8 (.ref (ad 1)) kiX8_buys_X8 kfX8_buys_13 rfl dX8_buys_95 rfl rfl rfl (by decide) rfl ?_
        refine g_bipush 100 C 9 dX8_buys_98 rfl (by decide) ?_
        refine g_dup2 101 C dX8_buys_100 rfl rfl rfl ?_
        refine g_ialdc 102 C 1 (9) (σ16 1 9) dX8_buys_101 rfl rfl (by decide) (by decide) rfl ?_
        refine g_iconst 103 C 1 dX8_buys_102 rfl (by decide) ?_
        refine g_iadd 104 C dX8_buys_103 rfl ?_
        obtain ⟨σ17, eσ17, hF⟩ := sg_letE hF
        refine g_iast 105 C (w2 := (ww_X8 Y ad σ17)) 1 dX8_buys_104 rfl rfl (by decide) (by rw [eσ17]; rfl) ?_
        refine g_aload_n 106 C dX8_buys_105 rfl rfl rfl ?_
        refine g_get 109 C (own := RX8) (C1 := RX8) (T := TX8) 0 8 (.ref (ad 1)) kiX8_buys_X8 kfX8_buys_13 rfl dX8_buys_106 rfl rfl rfl (by decide) rfl ?_
        refine g_iload_n 110 C dX8_buys_109 rfl rfl rfl ?_
        refine g_iconst 111 C 2 dX8_buys_110 rfl (by decide) ?_
        obtain ⟨r18, q19, hF⟩ := sg_bndE hF
        refine g_callSi 114 C (w2 := (ww_X8 Y ad σ17)) (As := [.int x1, .int 2]) (st := [.ref (ad 1)]) (n0 := 2) [] [0, 1, 2, 3, 4, 5, 6, 7, 8, 9, 10, 11, 12] [0, 1, 2, 3, 4, 5, 6, 7, 8, 9, 10, 11, 12] (c_X8_at l hZ (ad := ad) (σ := σ17) q19) gX8_buys_X8_at ⟨by decide +kernel, by decide +kernel, rfl⟩ rfl ⟨Nat.le_of_ble_eq_true rfl, Nat.le_of_ble_eq_true rfl⟩ ⟨rfl, rfl, rfl, by decide, rfl, rfl⟩ rfl rfl (Nat.le_of_ble_eq_true rfl) ⟨Nat.le_refl _, Nat.le_refl _⟩ dX8_buys_111 rfl rfl ?_
        obtain ⟨h20, hF⟩ := sg_grdE hF
        refine g_ialdc 115 C 1 (r18.toNatClampNeg) (σ17 1 r18.toNatClampNeg) dX8_buys_114 rfl rfl rfl h20 rfl ?_
        obtain ⟨e1, e2⟩ := sg_pairE hF
        exact g_iret C hr rfl hQ hsz dX8_buys_115 e1.symm (by rw [e2])
      · refine g_aload_n 51 C dX8_buys_50 rfl rfl rfl ?_
        refine g_iconst 52 C 4 dX8_buys_51 rfl (by decide) ?_
        refine g_aload_n 53 C dX8_buys_52 rfl rfl rfl ?_
        refine g_get 56 C (own := RX8) (C1 := RX8) (T := TX8) 0 8 (.ref (ad 1)) kiX8_buys_X8 kfX8_buys_13 rfl dX8_buys_53 rfl rfl rfl (by decide) rfl ?_
        refine g_iload_n 57 C dX8_buys_56 rfl rfl rfl ?_
        refine g_iconst 58 C 0 dX8_buys_57 rfl (by decide) ?_
        obtain ⟨r21, q22, hF⟩ := sg_bndE hF
        refine g_callSi 61 C (w2 := (ww_X8 Y ad σ)) (As := [.int x1, .int 0]) (st := [.ref (ad 1), .int 4, .ref (ad 0)]) (n0 := 2) [] [0, 1, 2, 3, 4, 5, 6, 7, 8, 9, 10, 11, 12] [0, 1, 2, 3, 4, 5, 6, 7, 8, 9, 10, 11, 12] (c_X8_at l hZ (ad := ad) (σ := σ) q22) gX8_buys_X8_at ⟨by decide +kernel, by decide +kernel, rfl⟩ rfl ⟨Nat.le_of_ble_eq_true rfl, Nat.le_of_ble_eq_true rfl⟩ ⟨rfl, rfl, rfl, by decide, rfl, rfl⟩ rfl rfl (Nat.le_of_ble_eq_true rfl) ⟨Nat.le_refl _, Nat.le_refl _⟩ dX8_buys_58 rfl rfl ?_
        obtain ⟨h23, hF⟩ := sg_grdE hF
        refine g_ialdc 62 C 1 (r21.toNatClampNeg) (σ 1 r21.toNatClampNeg) dX8_buys_61 rfl rfl rfl h23 rfl ?_
        obtain ⟨r26, τ24, q25, hF⟩ := sg_bnd2E hF
        refine g_callVi 65 C (w2 := (ww_X8 Y ad τ24)) (As := [.int 4, .int (σ 1 r21.toNatClampNeg)]) (st := []) (n0 := 2) (ci := 9) (q0 := 0) [0, 1, 2, 3, 4, 5, 6, 7, 8, 9, 10, 11, 12] [] [0, 1, 2, 3, 4, 5, 6, 7, 8, 9, 10, 11, 12] (c_X8_refuses l hZ (ad := ad) q25) gX8_buys_X8_refuses ⟨rfl, by decide +kernel, by decide +kernel, rfl⟩ rfl ⟨Nat.le_of_ble_eq_true rfl, Nat.le_of_ble_eq_true rfl⟩ rfl rfl ⟨rfl, rfl, rfl, by decide, rfl, rfl⟩ rfl rfl (Nat.le_of_ble_eq_true rfl) ⟨Nat.le_refl _, Nat.le_refl _⟩ dX8_buys_62 rfl rfl ?_
        obtain ⟨e1, e2⟩ := sg_pairE hF
        exact g_iret C hr rfl hQ hsz dX8_buys_65 e1.symm (by rw [e2])
    · refine g_aload_n 29 C dX8_buys_28 rfl rfl rfl ?_
      refine g_iconst 30 C 1 dX8_buys_29 rfl (by decide) ?_
      refine g_bipush 32 C 9 dX8_buys_30 rfl (by decide) ?_
      obtain ⟨r29, τ27, q28, hF⟩ := sg_bnd2E hF
      refine g_callVi 35 C (w2 := (ww_X8 Y ad τ27)) (As := [.int 1, .int 9]) (st := []) (n0 := 2) (ci := 9) (q0 := 0) [0, 1, 2, 3, 4, 5, 6, 7, 8, 9, 10, 11, 12] [] [0, 1, 2, 3, 4, 5, 6, 7, 8, 9, 10, 11, 12] (c_X8_refuses l hZ (ad := ad) q28) gX8_buys_X8_refuses ⟨rfl, by decide +kernel, by decide +kernel, rfl⟩ rfl ⟨Nat.le_of_ble_eq_true rfl, Nat.le_of_ble_eq_true rfl⟩ rfl rfl ⟨rfl, rfl, rfl, by decide, rfl, rfl⟩ rfl rfl (Nat.le_of_ble_eq_true rfl) ⟨Nat.le_refl _, Nat.le_refl _⟩ dX8_buys_32 rfl rfl ?_
      obtain ⟨e1, e2⟩ := sg_pairE hF
      exact g_iret C hr rfl hQ hsz dX8_buys_35 e1.symm (by rw [e2])
  · refine g_aload_n 8 C dX8_buys_7 rfl rfl rfl ?_
    refine g_iconst 9 C (-1) dX8_buys_8 rfl (by decide) ?_
    obtain ⟨r32, τ30, q31, hF⟩ := sg_bnd2E hF
    refine g_callVi 12 C (w2 := (ww_X8 Y ad τ30)) (As := [.int (-1)]) (st := []) (n0 := 1) (ci := 9) (q0 := 0) [0, 1, 2, 3, 4, 5, 6, 7, 8, 9, 10, 11, 12] [] [0, 1, 2, 3, 4, 5, 6, 7, 8, 9, 10, 11, 12] (c_X8_fail l hZ (ad := ad) q31) gX8_buys_X8_fail ⟨rfl, by decide +kernel, by decide +kernel, rfl⟩ rfl ⟨Nat.le_of_ble_eq_true rfl, Nat.le_of_ble_eq_true rfl⟩ rfl rfl ⟨rfl, rfl, rfl, by decide, rfl, rfl⟩ rfl rfl (Nat.le_of_ble_eq_true rfl) ⟨Nat.le_refl _, Nat.le_refl _⟩ dX8_buys_9 rfl rfl ?_
    obtain ⟨e1, e2⟩ := sg_pairE hF
    exact g_iret C hr rfl hQ hsz dX8_buys_12 e1.symm (by rw [e2])
def f_X8_buy (x1 : Int32) (σ : sg_S) : Option (Int32 × sg_S) := sg_bnd (f_X8_begins  σ) (fun τ1 => sg_bnd2 (f_X8_buys x1 τ1) (fun r5 τ3 => sg_bnd2 (f_X8_ends r5 τ3) (fun r8 τ6 => some (r8, τ6))))
set_option maxHeartbeats 4000000 in
set_option maxRecDepth 100000 in
theorem c_X8_buy (l : Launch) {D : va_G} {Y : Nat → ClassId} {Z : (Nat → Prop) → State → Heap → Prop} (hZ : sg_Zok Z) {ad : Nat → Nat} {σ : sg_S} {σ' : sg_S} {x1 : Int32} {r : Int32} (hF : f_X8_buy x1 σ = some (r, σ')) : sg_MI l yX8_buy wsX8_buy 3 64 D Y Z [.ref (ad 0), .int x1] (ww_X8 Y ad σ) r (ww_X8 Y ad σ') := by
  intro sz
  refine sg_enter (own := RX8) (maxL := 2) (ret := (some .int)) (cc := cX8_buy) (by decide +kernel) rfl rfl (Nat.le_of_ble_eq_true rfl) hZ ?_
  intro p e s m args below meth c C hr Q hQ hsz
  refine g_lv (lv2 := [(0, .ref (ad 0)), (1, .int x1)]) [0, 1] rfl ?_
  rw [f_X8_buy] at hF
  refine g_aload_n 1 C dX8_buy_0 rfl rfl rfl ?_
  obtain ⟨τ1, q2, hF⟩ := sg_bndE hF
  refine g_callVv 4 C (w2 := (ww_X8 Y ad τ1)) (As := []) (st := []) (n0 := 0) (ci := 9) (q0 := 0) [0, 1, 2, 3, 4, 5, 6, 7, 8, 9, 10, 11, 12] [] [0, 1, 2, 3, 4, 5, 6, 7, 8, 9, 10, 11, 12] (c_X8_begins l hZ (ad := ad) q2) gX8_buy_X8_begins ⟨rfl, by decide +kernel, by decide +kernel, rfl⟩ rfl ⟨Nat.le_of_ble_eq_true rfl, Nat.le_of_ble_eq_true rfl⟩ rfl rfl ⟨rfl, rfl, rfl, by decide, rfl, rfl⟩ rfl rfl (Nat.le_of_ble_eq_true rfl) ⟨Nat.le_refl _, Nat.le_refl _⟩ dX8_buy_1 rfl rfl ?_
  refine g_aload_n 5 C dX8_buy_4 rfl rfl rfl ?_
  refine g_aload_n 6 C dX8_buy_5 rfl rfl rfl ?_
  refine g_iload_n 7 C dX8_buy_6 rfl rfl rfl ?_
  obtain ⟨r5, τ3, q4, hF⟩ := sg_bnd2E hF
  refine g_callVi 10 C (w2 := (ww_X8 Y ad τ3)) (As := [.int x1]) (st := [.ref (ad 0)]) (n0 := 1) (ci := 9) (q0 := 0) [0, 1, 2, 3, 4, 5, 6, 7, 8, 9, 10, 11, 12] [] [0, 1, 2, 3, 4, 5, 6, 7, 8, 9, 10, 11, 12] (c_X8_buys l hZ (ad := ad) q4) gX8_buy_X8_buys ⟨rfl, by decide +kernel, by decide +kernel, rfl⟩ rfl ⟨Nat.le_of_ble_eq_true rfl, Nat.le_of_ble_eq_true rfl⟩ rfl rfl ⟨rfl, rfl, rfl, by decide, rfl, rfl⟩ rfl rfl (Nat.le_of_ble_eq_true rfl) ⟨Nat.le_refl _, Nat.le_refl _⟩ dX8_buy_7 rfl rfl ?_
  obtain ⟨r8, τ6, q7, hF⟩ := sg_bnd2E hF
  refine g_callVi 13 C (w2 := (ww_X8 Y ad τ6)) (As := [.int r5]) (st := []) (n0 := 1) (ci := 9) (q0 := 0) [0, 1, 2, 3, 4, 5, 6, 7, 8, 9, 10, 11, 12] [] [0, 1, 2, 3, 4, 5, 6, 7, 8, 9, 10, 11, 12] (c_X8_ends l hZ (ad := ad) q7) gX8_buy_X8_ends ⟨rfl, by decide +kernel, by decide +kernel, rfl⟩ rfl ⟨Nat.le_of_ble_eq_true rfl, Nat.le_of_ble_eq_true rfl⟩ rfl rfl ⟨rfl, rfl, rfl, by decide, rfl, rfl⟩ rfl rfl (Nat.le_of_ble_eq_true rfl) ⟨Nat.le_refl _, Nat.le_refl _⟩ dX8_buy_10 rfl rfl ?_
  obtain ⟨e1, e2⟩ := sg_pairE hF
  exact g_iret C hr rfl hQ hsz dX8_buy_13 e1.symm (by rw [e2])
