theorem kiX7_read_X7 : ∀ w ∈ u_ws RX7 TX7 10, w ∈ wsX7_read := by decide +kernel
theorem kfX7_read_39 : Cond.fieldLink RX7 39 "WeatherMinistry" "text" "LWeatherMinistry$Text;" ∈ wsX7_read := by decide +kernel
theorem kiX7_read_X5 : ∀ w ∈ u_ws RX5 TX5 5, w ∈ wsX7_read := by decide +kernel
theorem kfX7_read_209 : Cond.fieldLink RX7 209 "WeatherMinistry$Text" "signs" "Ljava/lang/StringBuilder;" ∈ wsX7_read := by decide +kernel
theorem kfX7_read_16 : Cond.fieldLink RX7 16 "WeatherMinistry" "before" "LWeatherMinistry$Realm;" ∈ wsX7_read := by decide +kernel
theorem kfX7_read_10 : Cond.fieldLink RX7 10 "WeatherMinistry" "now" "LWeatherMinistry$Realm;" ∈ wsX7_read := by decide +kernel
theorem kfX7_read_240 : Cond.fieldLink RX7 240 "WeatherMinistry$Text" "count" "I" ∈ wsX7_read := by decide +kernel
theorem kfX7_read_32 : Cond.fieldLink RX7 32 "WeatherMinistry" "history" "LWeatherMinistry$History;" ∈ wsX7_read := by decide +kernel
theorem kfX7_read_241 : Cond.fieldLink RX7 241 "WeatherMinistry$Text" "numbers" "[[I" ∈ wsX7_read := by decide +kernel
theorem kfX7_read_245 : Cond.fieldLink RX7 245 "WeatherMinistry$Text" "kinds" "[I" ∈ wsX7_read := by decide +kernel
theorem kfX7_read_53 : Cond.fieldLink RX7 53 "WeatherMinistry" "latest" "LWeatherMinistry$Reason;" ∈ wsX7_read := by decide +kernel
theorem kfX7_read_237 : Cond.fieldLink RX7 237 "WeatherMinistry$Text" "at" "I" ∈ wsX7_read := by decide +kernel
theorem kfX7_read_57 : Cond.fieldLink RX7 57 "WeatherMinistry" "faultPosition" "I" ∈ wsX7_read := by decide +kernel
def f_X7_read_L50 : Nat → Int32 → sg_S → Option (Int32 × sg_S)
  | 0, _, _ => none
  | nz + 1, z2, σz => (if z2 < σz 160 2 then sg_grd (sg_in z2 12) (sg_let (z2.toNatClampNeg) (fun k15 => sg_bnd2 (f_X7_perform (σz 163 z2.toNatClampNeg) (σz (165 + 1 * k15) 0) (σz (165 + 1 * k15) 1) (σz (165 + 1 * k15) 2) σz) (fun r18 τ16 => sg_let (sg_m1 0 15 σz τ16) (fun σ19 => (if r18 < 0 then sg_bnd (f_X3_copyFrom  (sg_e2 13 1 15 σ19)) (fun τ20 => sg_let (sg_m2 1 13 15 13 σ19 τ20) (fun σ22 => (if r18 = (-5) then sg_bnd2 (f_X4_keepOfCommand z2 1 (sg_e1 14 σ22)) (fun r29 τ27 => sg_let (sg_m1 14 1 σ22 τ27) (fun σ30 => some (r29, σ30))) else sg_bnd2 (f_X4_keepOfCommand z2 0 (sg_e1 14 σ22)) (fun r25 τ23 => sg_let (sg_m1 14 1 σ22 τ23) (fun σ26 => some (r25, σ26)))))) else f_X7_read_L50 nz (z2 + 1) σ19))))) else sg_bnd (f_X2_keep  (sg_e2 106 54 15 σz)) (fun τ11 => sg_let (sg_m2 54 106 15 13 σz τ11) (fun σ13 => some (σ13 160 2, σ13))))
def f_X7_read  (σ : sg_S) : Option (Int32 × sg_S) := sg_bnd2 (f_X5_isWellFormed  (sg_e1 160 σ)) (fun r3 τ1 => sg_let (sg_m1 160 17 σ τ1) (fun σ4 => sg_bnd (f_J4_setLength_d00df 0 (sg_e1 161 σ4)) (fun τ5 => sg_let (sg_m1 161 2 σ4 τ5) (fun σ7 => (if r3 = 0 then sg_let (sg_up σ7 0 9 (σ7 160 1)) (fun σ31 => some ((-2), σ31)) else sg_bnd (f_X3_copyFrom  (sg_e2 13 15 1 σ7)) (fun τ8 => sg_let (sg_m2 15 13 1 13 σ7 τ8) (fun σ10 => f_X7_read_L50 1000 0 σ10)))))))
set_option maxHeartbeats 4000000 in
set_option maxRecDepth 100000 in
theorem c_X7_read (l : Launch) {D : va_G} {Y : Nat → ClassId} {Z : (Nat → Prop) → State → Heap → Prop} (hZ : sg_Zok Z) {jK jV jT : Nat → Nat} (hJ : sg_ZJ Z jK jV jT) {ad : Nat → Nat} {σ : sg_S} {σ' : sg_S} {r : Int32} (hF : f_X7_read  σ = some (r, σ')) : sg_MI l yX7_read wsX7_read 9 200 D Y Z [.ref (ad 0)] (ww_X7TNLBHX Y ad σ) r (ww_X7TNLBHX Y ad σ') := by
  intro sz
  refine sg_enter (own := RX7) (maxL := 5) (ret := (some .int)) (cc := cX7_read) (by decide +kernel) rfl rfl (Nat.le_of_ble_eq_true rfl) hZ ?_
  intro p e s m args below meth c C hr Q hQ hsz
  have hJJ := hJ _ _ _ C.2.2.2.2.2.2.2.2.1
  refine g_lv (lv2 := [(0, .ref (ad 0))]) [0] rfl ?_
  have K50 : ∀ (nz : Nat), ∀ (z2 : Int32) (σz : sg_S), f_X7_read_L50 nz z2 σz = some (r, σ') → sg_G p l e ({ frames := 9, cells := 0, slots := 0, locals := 200 } : Room) s m args below meth c D (va_A (ww_X7TNLBHX Y ad σ) s.heap.size) 5 0 0 Q 50 [(0, .ref (ad 0)), (2, .int z2)] [] (ww_X7TNLBHX Y ad σz) := by
    intro nz
    induction nz with
    | zero =>
      intro z2 σz hF
      rw [f_X7_read_L50.eq_1] at hF
      exact nomatch hF
    | succ nz ih =>
      intro z2 σz hF
      rw [f_X7_read_L50.eq_2] at hF
      refine g_iload_n 51 C dX7_read_50 rfl rfl rfl ?_
      refine g_aload_n 52 C dX7_read_51 rfl rfl rfl ?_
      refine g_get 55 C (own := RX7) (C1 := RX7) (T := TX7) 0 6 (.ref (ad 160)) kiX7_read_X7 kfX7_read_39 rfl dX7_read_52 rfl rfl rfl (by decide) rfl ?_
      refine g_get 58 C (own := RX7) (C1 := RX5) (T := TX5) 134 2 (.int (σz 160 2)) kiX7_read_X5 kfX7_read_240 rfl dX7_read_55 rfl rfl rfl (by decide) rfl ?_
      refine g_icmp_ge 61 138 C dX7_read_58 (by decide) rfl hF (fun hF => ?_) (fun hF => ?_)
      · refine g_aload_n 139 C dX7_read_138 rfl rfl rfl ?_
        refine g_get 142 C (own := RX7) (C1 := RX7) (T := TX7) 0 5 (.ref (ad 54)) kiX7_read_X7 kfX7_read_32 rfl dX7_read_139 rfl rfl rfl (by decide) rfl ?_
        refine g_aload_n 143 C dX7_read_142 rfl rfl rfl ?_
        refine g_get 146 C (own := RX7) (C1 := RX7) (T := TX7) 0 1 (.ref (ad 15)) kiX7_read_X7 kfX7_read_16 rfl dX7_read_143 rfl rfl rfl (by decide) rfl ?_
        obtain ⟨τ11, q12, hF⟩ := sg_bndE hF
        obtain ⟨σ13, eσ13, hF⟩ := sg_letE hF
        refine g_callVvP 149 C (w2 := (ww_X7TNLBHX Y ad σ13)) (As := [.ref (ad 15)]) (st := []) (n0 := 1) (ci := 4) (q0 := 28) (sg_MVe (c_X2_keep l hZ (ad := (sg_e2 106 54 15 ad)) q12) (sg_eqCons (sg_eqRow (f2 := fun i => some (ad (56 + 13 * i))) (sg_rowH ad _))) (sg_eqCons (sg_eqRow (f2 := fun i => some (ad (56 + 13 * i))) (sg_rowH ad _)))) gX7_read_X2_keep ⟨rfl, by decide +kernel, by decide +kernel, rfl⟩ rfl ⟨Nat.le_of_ble_eq_true rfl, Nat.le_of_ble_eq_true rfl⟩ rfl rfl (by subst eσ13; exact sg_cutB (bk_7 Y ad σz) (bk_7 Y ad (sg_m2 54 106 15 13 σz τ11)) [0, 1, 2, 3, 6, 7, 8, 9, 10, 11, 12, 13, 14, 15, 16, 17, 18] [6, 7, 8, 9, 10, 11, 12, 13, 14, 15, 3] [0, 1, 2, 16, 17, 18] rfl (by decide) rfl rfl rfl rfl) rfl (Nat.le_of_ble_eq_true rfl) ⟨Nat.le_refl _, Nat.le_refl _⟩ dX7_read_146 rfl rfl ?_
        refine g_aload_n 150 C dX7_read_149 rfl rfl rfl ?_
        refine g_get 153 C (own := RX7) (C1 := RX7) (T := TX7) 0 6 (.ref (ad 160)) kiX7_read_X7 kfX7_read_39 rfl dX7_read_150 rfl rfl rfl (by decide) rfl ?_
        refine g_get 156 C (own := RX7) (C1 := RX5) (T := TX5) 134 2 (.int (σ13 160 2)) kiX7_read_X5 kfX7_read_240 rfl dX7_read_153 rfl rfl rfl (by decide) rfl ?_
        obtain ⟨e1, e2⟩ := sg_pairE hF
        exact g_iret C hr rfl hQ hsz dX7_read_156 e1.symm (by rw [e2])
      · refine g_aload_n 62 C dX7_read_61 rfl rfl rfl ?_
        refine g_get 65 C (own := RX7) (C1 := RX7) (T := TX7) 0 6 (.ref (ad 160)) kiX7_read_X7 kfX7_read_39 rfl dX7_read_62 rfl rfl rfl (by decide) rfl ?_
        refine g_get 68 C (own := RX7) (C1 := RX5) (T := TX5) 134 4 (.ref (ad 164)) kiX7_read_X5 kfX7_read_241 rfl dX7_read_65 rfl rfl rfl (by decide) rfl ?_
        refine g_iload_n 69 C dX7_read_68 rfl rfl rfl ?_
        obtain ⟨h14, hF⟩ := sg_grdE hF
        obtain ⟨k15, ek15, hF⟩ := sg_letE hF
        have hk15 : k15 < 12 := by rw [ek15]; exact sg_inN h14
        refine g_aaldI 70 C (k := k15) 138 (.ref (ad (165 + 1 * k15))) h14 ek15 rfl dX7_read_69 rfl rfl ?_
        refine g_astore_n 71 C [(3, .ref (ad (165 + 1 * k15))), (0, .ref (ad 0)), (2, .int z2)] dX7_read_70 rfl rfl (by decide) rfl ?_
        refine g_aload_n 72 C dX7_read_71 rfl rfl rfl ?_
        refine g_aload_n 73 C dX7_read_72 rfl rfl rfl ?_
        refine g_get 76 C (own := RX7) (C1 := RX7) (T := TX7) 0 6 (.ref (ad 160)) kiX7_read_X7 kfX7_read_39 rfl dX7_read_73 rfl rfl rfl (by decide) rfl ?_
        refine g_get 79 C (own := RX7) (C1 := RX5) (T := TX5) 134 3 (.ref (ad 163)) kiX7_read_X5 kfX7_read_245 rfl dX7_read_76 rfl rfl rfl (by decide) rfl ?_
        refine g_iload_n 80 C dX7_read_79 rfl rfl rfl ?_
        refine g_ialdc 81 C 137 (z2.toNatClampNeg) (σz 163 z2.toNatClampNeg) dX7_read_80 rfl rfl rfl h14 rfl ?_
        refine g_aload_n 82 C dX7_read_81 rfl rfl rfl ?_
        refine g_iconst 83 C 0 dX7_read_82 rfl (by decide) ?_
        refine g_ialdc 84 C (N := 3) (f := σz (165 + 1 * k15)) (139 + 1 * k15) (0) (σz (165 + 1 * k15) 0) dX7_read_83 rfl (by rcases sg_lt12 hk15 with rfl | rfl | rfl | rfl | rfl | rfl | rfl | rfl | rfl | rfl | rfl | rfl <;> rfl) (by decide) (by decide) rfl ?_
        refine g_aload_n 85 C dX7_read_84 rfl rfl rfl ?_
        refine g_iconst 86 C 1 dX7_read_85 rfl (by decide) ?_
        refine g_ialdc 87 C (N := 3) (f := σz (165 + 1 * k15)) (139 + 1 * k15) (1) (σz (165 + 1 * k15) 1) dX7_read_86 rfl (by rcases sg_lt12 hk15 with rfl | rfl | rfl | rfl | rfl | rfl | rfl | rfl | rfl | rfl | rfl | rfl <;> rfl) (by decide) (by decide) rfl ?_
        refine g_aload_n 88 C dX7_read_87 rfl rfl rfl ?_
        refine g_iconst 89 C 2 dX7_read_88 rfl (by decide) ?_
        refine g_ialdc 90 C (N := 3) (f := σz (165 + 1 * k15)) (139 + 1 * k15) (2) (σz (165 + 1 * k15) 2) dX7_read_89 rfl (by rcases sg_lt12 hk15 with rfl | rfl | rfl | rfl | rfl | rfl | rfl | rfl | rfl | rfl | rfl | rfl <;> rfl) (by decide) (by decide) rfl ?_
        obtain ⟨r18, τ16, q17, hF⟩ := sg_bnd2E hF
        obtain ⟨σ19, eσ19, hF⟩ := sg_letE hF
        refine g_callViP 93 C (w2 := (ww_X7TNLBHX Y ad σ19)) (As := [.int (σz 163 z2.toNatClampNeg), .int (σz (165 + 1 * k15) 0), .int (σz (165 + 1 * k15) 1), .int (σz (165 + 1 * k15) 2)]) (st := []) (n0 := 4) (ci := 9) (q0 := 0) (c_X7_perform l hZ (ad := ad) q17) gX7_read_X7_perform ⟨rfl, by decide +kernel, by decide +kernel, rfl⟩ rfl ⟨Nat.le_of_ble_eq_true rfl, Nat.le_of_ble_eq_true rfl⟩ rfl rfl (by subst eσ19; exact sg_cutB (bk_7 Y ad σz) (bk_7 Y ad (sg_m1 0 15 σz τ16)) [0, 1, 2, 3, 6, 7, 8, 9, 10, 11, 12, 13, 14, 15, 16, 17, 18] [0, 1, 2] [3, 6, 7, 8, 9, 10, 11, 12, 13, 14, 15, 16, 17, 18] rfl (by decide) rfl rfl rfl rfl) rfl (Nat.le_of_ble_eq_true rfl) ⟨Nat.le_refl _, Nat.le_refl _⟩ dX7_read_90 rfl rfl ?_
        refine g_istore 95 C [(4, .int r18), (3, .ref (ad (165 + 1 * k15))), (0, .ref (ad 0)), (2, .int z2)] dX7_read_93 rfl (by decide) rfl ?_
        refine g_iload 97 C dX7_read_95 rfl rfl ?_
        refine g_if_ge 100 132 C dX7_read_97 (by decide) rfl hF (fun hF => ?_) (fun hF => ?_)
        · refine g_iinc 135 C 3 (z2 + 1) [(2, .int (z2 + 1)), (4, .int r18), (3, .ref (ad (165 + 1 * k15))), (0, .ref (ad 0))] dX7_read_132 rfl rfl rfl (by decide) rfl ?_
          refine g_goto 50 C dX7_read_135 (by decide) ?_
          refine g_lv (lv2 := [(0, .ref (ad 0)), (2, .int (z2 + 1))]) [3, 0] rfl ?_
          exact ih (z2 + 1) σ19 hF
        · refine g_aload_n 101 C dX7_read_100 rfl rfl rfl ?_
          refine g_get 104 C (own := RX7) (C1 := RX7) (T := TX7) 0 0 (.ref (ad 1)) kiX7_read_X7 kfX7_read_10 rfl dX7_read_101 rfl rfl rfl (by decide) rfl ?_
          refine g_aload_n 105 C dX7_read_104 rfl rfl rfl ?_
          refine g_get 108 C (own := RX7) (C1 := RX7) (T := TX7) 0 1 (.ref (ad 15)) kiX7_read_X7 kfX7_read_16 rfl dX7_read_105 rfl rfl rfl (by decide) rfl ?_
          obtain ⟨τ20, q21, hF⟩ := sg_bndE hF
          obtain ⟨σ22, eσ22, hF⟩ := sg_letE hF
          refine g_callVvP 111 C (w2 := (ww_X7TNLBHX Y ad σ22)) (As := [.ref (ad 15)]) (st := []) (n0 := 1) (ci := 5) (q0 := 1) (c_X3_copyFrom l hZ (ad := (sg_e2 13 1 15 ad)) q21) gX7_read_X3_copyFrom ⟨rfl, by decide +kernel, by decide +kernel, rfl⟩ rfl ⟨Nat.le_of_ble_eq_true rfl, Nat.le_of_ble_eq_true rfl⟩ rfl rfl (by subst eσ22; exact sg_cutB (bk_7 Y ad σ19) (bk_7 Y ad (sg_m2 1 13 15 13 σ19 τ20)) [0, 1, 2, 3, 6, 7, 8, 9, 10, 11, 12, 13, 14, 15, 16, 17, 18] [1, 3] [0, 2, 6, 7, 8, 9, 10, 11, 12, 13, 14, 15, 16, 17, 18] rfl (by decide) rfl rfl rfl rfl) rfl (Nat.le_of_ble_eq_true rfl) ⟨Nat.le_refl _, Nat.le_refl _⟩ dX7_read_108 rfl rfl ?_
          refine g_aload_n 112 C dX7_read_111 rfl rfl rfl ?_
          refine g_get 115 C (own := RX7) (C1 := RX7) (T := TX7) 0 8 (.ref (ad 14)) kiX7_read_X7 kfX7_read_53 rfl dX7_read_112 rfl rfl rfl (by decide) rfl ?_
          refine g_iload_n 116 C dX7_read_115 rfl rfl rfl ?_
          refine g_iload 118 C dX7_read_116 rfl rfl ?_
          refine g_bipush 120 C (-5) dX7_read_118 rfl (by decide) ?_
          refine g_icmp_ne 123 127 C dX7_read_120 (by decide) rfl hF (fun hF => ?_) (fun hF => ?_)
          · refine g_iconst 128 C 0 dX7_read_127 rfl (by decide) ?_
            obtain ⟨r25, τ23, q24, hF⟩ := sg_bnd2E hF
            obtain ⟨σ26, eσ26, hF⟩ := sg_letE hF
            refine g_callViP 131 C (w2 := (ww_X7TNLBHX Y ad σ26)) (As := [.int z2, .int 0]) (st := []) (n0 := 2) (ci := 6) (q0 := 14) (c_X4_keepOfCommand l hZ (ad := (sg_e1 14 ad)) q24) gX7_read_X4_keepOfCommand ⟨rfl, by decide +kernel, by decide +kernel, rfl⟩ rfl ⟨Nat.le_of_ble_eq_true rfl, Nat.le_of_ble_eq_true rfl⟩ rfl rfl (by subst eσ26; exact sg_cutB (bk_7 Y ad σ22) (bk_7 Y ad (sg_m1 14 1 σ22 τ23)) [0, 1, 2, 3, 6, 7, 8, 9, 10, 11, 12, 13, 14, 15, 16, 17, 18] [2] [0, 1, 3, 6, 7, 8, 9, 10, 11, 12, 13, 14, 15, 16, 17, 18] rfl (by decide) rfl rfl rfl rfl) rfl (Nat.le_of_ble_eq_true rfl) ⟨Nat.le_refl _, Nat.le_refl _⟩ dX7_read_128 rfl rfl ?_
            obtain ⟨e1, e2⟩ := sg_pairE hF
            exact g_iret C hr rfl hQ hsz dX7_read_131 e1.symm (by rw [e2])
          · refine g_iconst 124 C 1 dX7_read_123 rfl (by decide) ?_
            refine g_goto 128 C dX7_read_124 (by decide) ?_
            obtain ⟨r29, τ27, q28, hF⟩ := sg_bnd2E hF
            obtain ⟨σ30, eσ30, hF⟩ := sg_letE hF
            refine g_callViP 131 C (w2 := (ww_X7TNLBHX Y ad σ30)) (As := [.int z2, .int 1]) (st := []) (n0 := 2) (ci := 6) (q0 := 14) (c_X4_keepOfCommand l hZ (ad := (sg_e1 14 ad)) q28) gX7_read_X4_keepOfCommand ⟨rfl, by decide +kernel, by decide +kernel, rfl⟩ rfl ⟨Nat.le_of_ble_eq_true rfl, Nat.le_of_ble_eq_true rfl⟩ rfl rfl (by subst eσ30; exact sg_cutB (bk_7 Y ad σ22) (bk_7 Y ad (sg_m1 14 1 σ22 τ27)) [0, 1, 2, 3, 6, 7, 8, 9, 10, 11, 12, 13, 14, 15, 16, 17, 18] [2] [0, 1, 3, 6, 7, 8, 9, 10, 11, 12, 13, 14, 15, 16, 17, 18] rfl (by decide) rfl rfl rfl rfl) rfl (Nat.le_of_ble_eq_true rfl) ⟨Nat.le_refl _, Nat.le_refl _⟩ dX7_read_128 rfl rfl ?_
            obtain ⟨e1, e2⟩ := sg_pairE hF
            exact g_iret C hr rfl hQ hsz dX7_read_131 e1.symm (by rw [e2])
  rw [f_X7_read] at hF
  refine g_aload_n 1 C dX7_read_0 rfl rfl rfl ?_
  refine g_get 4 C (own := RX7) (C1 := RX7) (T := TX7) 0 6 (.ref (ad 160)) kiX7_read_X7 kfX7_read_39 rfl dX7_read_1 rfl rfl rfl (by decide) rfl ?_
  obtain ⟨r3, τ1, q2, hF⟩ := sg_bnd2E hF
  obtain ⟨σ4, eσ4, hF⟩ := sg_letE hF
  refine g_callViP 7 C (w2 := (ww_X7TNLBHX Y ad σ4)) (As := []) (st := []) (n0 := 0) (ci := 7) (q0 := 134) (sg_MIe (c_X5_isWellFormed l hZ hJ (ad := (sg_e1 160 ad)) q2) (sg_eqCons (sg_eqCons (sg_eqCons (sg_eqCons (sg_eqRow (f2 := fun i => some (ad (165 + 1 * i))) (sg_rowT ad)))))) (sg_eqCons (sg_eqCons (sg_eqCons (sg_eqCons (sg_eqRow (f2 := fun i => some (ad (165 + 1 * i))) (sg_rowT ad))))))) gX7_read_X5_isWellFormed ⟨rfl, by decide +kernel, by decide +kernel, rfl⟩ rfl ⟨Nat.le_of_ble_eq_true rfl, Nat.le_of_ble_eq_true rfl⟩ rfl rfl (by subst eσ4; exact sg_cutB (bk_7 Y ad σ) (bk_7 Y ad (sg_m1 160 17 σ τ1)) [0, 1, 2, 3, 6, 7, 8, 9, 10, 11, 12, 13, 14, 15, 16, 17, 18] [16, 17, 18] [0, 1, 2, 3, 6, 7, 8, 9, 10, 11, 12, 13, 14, 15] rfl (by decide) rfl rfl rfl rfl) rfl (Nat.le_of_ble_eq_true rfl) ⟨Nat.le_refl _, Nat.le_refl _⟩ dX7_read_4 rfl rfl ?_
  refine g_istore_n 8 C [(1, .int r3), (0, .ref (ad 0))] dX7_read_7 rfl rfl (by decide) rfl ?_
  refine g_aload_n 9 C dX7_read_8 rfl rfl rfl ?_
  refine g_get 12 C (own := RX7) (C1 := RX7) (T := TX7) 0 6 (.ref (ad 160)) kiX7_read_X7 kfX7_read_39 rfl dX7_read_9 rfl rfl rfl (by decide) rfl ?_
  refine g_get 15 C (own := RX7) (C1 := RX5) (T := TX5) 134 0 (.ref (ad 161)) kiX7_read_X5 kfX7_read_209 rfl dX7_read_12 rfl rfl rfl (by decide) rfl ?_
  refine g_iconst 16 C 0 dX7_read_15 rfl (by decide) ?_
  obtain ⟨τ5, q6, hF⟩ := sg_bndE hF
  obtain ⟨σ7, eσ7, hF⟩ := sg_letE hF
  refine g_callVvP 19 C (w2 := (ww_X7TNLBHX Y ad σ7)) (As := [.int 0]) (st := []) (n0 := 1) (ci := 1) (q0 := 135) (c_J4_setLength_d00df l hZ hJ (ad := (sg_e1 161 ad)) q6) gX7_read_J4_setLength_d00df ⟨rfl, by decide +kernel, by decide +kernel, rfl⟩ rfl ⟨Nat.le_of_ble_eq_true rfl, Nat.le_of_ble_eq_true rfl⟩ rfl rfl (by subst eσ7; exact sg_cutB (bk_7 Y ad σ4) (bk_7 Y ad (sg_m1 161 2 σ4 τ5)) [0, 1, 2, 3, 6, 7, 8, 9, 10, 11, 12, 13, 14, 15, 16, 17, 18] [17] [0, 1, 2, 3, 6, 7, 8, 9, 10, 11, 12, 13, 14, 15, 16, 18] rfl (by decide) rfl rfl rfl rfl) rfl (Nat.le_of_ble_eq_true rfl) ⟨Nat.le_refl _, Nat.le_refl _⟩ dX7_read_16 rfl rfl ?_
  refine g_iload_n 20 C dX7_read_19 rfl rfl rfl ?_
  refine g_if_ne 23 37 C dX7_read_20 (by decide) rfl hF (fun hF => ?_) (fun hF => ?_)
  · refine g_aload_n 38 C dX7_read_37 rfl rfl rfl ?_
    refine g_get 41 C (own := RX7) (C1 := RX7) (T := TX7) 0 1 (.ref (ad 15)) kiX7_read_X7 kfX7_read_16 rfl dX7_read_38 rfl rfl rfl (by decide) rfl ?_
    refine g_aload_n 42 C dX7_read_41 rfl rfl rfl ?_
    refine g_get 45 C (own := RX7) (C1 := RX7) (T := TX7) 0 0 (.ref (ad 1)) kiX7_read_X7 kfX7_read_10 rfl dX7_read_42 rfl rfl rfl (by decide) rfl ?_
    obtain ⟨τ8, q9, hF⟩ := sg_bndE hF
    obtain ⟨σ10, eσ10, hF⟩ := sg_letE hF
    refine g_callVvP 48 C (w2 := (ww_X7TNLBHX Y ad σ10)) (As := [.ref (ad 1)]) (st := []) (n0 := 1) (ci := 5) (q0 := 15) (c_X3_copyFrom l hZ (ad := (sg_e2 13 15 1 ad)) q9) gX7_read_X3_copyFrom ⟨rfl, by decide +kernel, by decide +kernel, rfl⟩ rfl ⟨Nat.le_of_ble_eq_true rfl, Nat.le_of_ble_eq_true rfl⟩ rfl rfl (by subst eσ10; exact sg_cutB (bk_7 Y ad σ7) (bk_7 Y ad (sg_m2 15 13 1 13 σ7 τ8)) [0, 1, 2, 3, 6, 7, 8, 9, 10, 11, 12, 13, 14, 15, 16, 17, 18] [3, 1] [0, 2, 6, 7, 8, 9, 10, 11, 12, 13, 14, 15, 16, 17, 18] rfl (by decide) rfl rfl rfl rfl) rfl (Nat.le_of_ble_eq_true rfl) ⟨Nat.le_refl _, Nat.le_refl _⟩ dX7_read_45 rfl rfl ?_
    refine g_iconst 49 C 0 dX7_read_48 rfl (by decide) ?_
    refine g_istore_n 50 C [(2, .int 0), (1, .int r3), (0, .ref (ad 0))] dX7_read_49 rfl rfl (by decide) rfl ?_
    refine g_lv (lv2 := [(0, .ref (ad 0)), (2, .int 0)]) [2, 0] rfl ?_
    exact K50  1000 0 σ10 hF
  · refine g_aload_n 24 C dX7_read_23 rfl rfl rfl ?_
    refine g_aload_n 25 C dX7_read_24 rfl rfl rfl ?_
    refine g_get 28 C (own := RX7) (C1 := RX7) (T := TX7) 0 6 (.ref (ad 160)) kiX7_read_X7 kfX7_read_39 rfl dX7_read_25 rfl rfl rfl (by decide) rfl ?_
    refine g_get 31 C (own := RX7) (C1 := RX5) (T := TX5) 134 1 (.int (σ7 160 1)) kiX7_read_X5 kfX7_read_237 rfl dX7_read_28 rfl rfl rfl (by decide) rfl ?_
    obtain ⟨σ31, eσ31, hF⟩ := sg_letE hF
    refine g_put 34 C (own := RX7) (C1 := RX7) (T := TX7) (w2 := (ww_X7TNLBHX Y ad σ31)) 0 9 tyX7 tyX7_ok nmX7 kiX7_read_X7 kfX7_read_57 rfl rfl (ty := .int) (by decide) rfl rfl (sg_blt rfl) dX7_read_31 rfl rfl rfl (by decide) (by rw [eσ31]; rfl) ?_
    refine g_bipush 36 C (-2) dX7_read_34 rfl (by decide) ?_
    obtain ⟨e1, e2⟩ := sg_pairE hF
    exact g_iret C hr rfl hQ hsz dX7_read_36 e1.symm (by rw [e2])
