def f_X7_append (x1 : Int32) (σ : sg_S) : Option (Int32 × sg_S) := (if 32 ≤ x1 then (if 126 < x1 then some ((-2), σ) else sg_bnd (f_J4_length_8abf5  (sg_e1 161 σ)) (fun r1 => (if 60 ≤ r1 then some ((-4), σ) else sg_bnd (f_J4_append_cf468 x1 (sg_e1 161 σ)) (fun τ3 => sg_let (sg_m1 161 2 σ τ3) (fun σ5 => sg_bnd (f_J4_length_8abf5  (sg_e1 161 σ5)) (fun r7 => some (r7, σ5))))))) else some ((-2), σ))
theorem kiX7_write_X7 : ∀ w ∈ u_ws RX7 TX7 10, w ∈ wsX7_write := by decide +kernel
theorem kfX7_write_46 : Cond.fieldLink RX7 46 "WeatherMinistry" "line" "Ljava/lang/StringBuilder;" ∈ wsX7_write := by decide +kernel
theorem kfX7_write_10 : Cond.fieldLink RX7 10 "WeatherMinistry" "now" "LWeatherMinistry$Realm;" ∈ wsX7_write := by decide +kernel
theorem kiX7_write_X3 : ∀ w ∈ u_ws RX3 TX3 8, w ∈ wsX7_write := by decide +kernel
theorem kfX7_write_154 : Cond.fieldLink RX7 154 "WeatherMinistry$Realm" "sun" "[I" ∈ wsX7_write := by decide +kernel
theorem kfX7_write_203 : Cond.fieldLink RX7 203 "WeatherMinistry$Realm" "rain" "[I" ∈ wsX7_write := by decide +kernel
theorem kfX7_write_206 : Cond.fieldLink RX7 206 "WeatherMinistry$Realm" "umbrellas" "[I" ∈ wsX7_write := by decide +kernel
theorem kfX7_write_148 : Cond.fieldLink RX7 148 "WeatherMinistry$Realm" "arrears" "[I" ∈ wsX7_write := by decide +kernel
def f_X7_write (x1 : Int32) (σ : sg_S) : Option (Int32 × sg_S) := sg_bnd (f_X7_isTown x1) (fun r1 => (if r1 = 0 then some ((-1), σ) else sg_bnd (f_J4_setLength_d00df 0 (sg_e1 177 σ)) (fun τ3 => sg_let (sg_m1 177 2 σ τ3) (fun σ5 => sg_bnd (f_J4_append_bf812 x1 (sg_e1 177 σ5)) (fun τ6 => sg_let (sg_m1 177 2 σ5 τ6) (fun σ8 => sg_bnd (f_J4_append_cf468 58 (sg_e1 177 σ8)) (fun τ10 => sg_let (sg_m1 177 2 σ8 τ10) (fun σ12 => sg_grd (sg_in x1 5) (sg_bnd (f_J4_append_bf812 (σ12 2 x1.toNatClampNeg) (sg_e1 177 σ12)) (fun τ15 => sg_let (sg_m1 177 2 σ12 τ15) (fun σ17 => sg_bnd (f_J4_append_cf468 115 (sg_e1 177 σ17)) (fun τ19 => sg_let (sg_m1 177 2 σ17 τ19) (fun σ21 => sg_bnd (f_J4_append_bf812 (σ21 3 x1.toNatClampNeg) (sg_e1 177 σ21)) (fun τ23 => sg_let (sg_m1 177 2 σ21 τ23) (fun σ25 => sg_bnd (f_J4_append_cf468 114 (sg_e1 177 σ25)) (fun τ27 => sg_let (sg_m1 177 2 σ25 τ27) (fun σ29 => sg_bnd (f_J4_append_bf812 (σ29 4 x1.toNatClampNeg) (sg_e1 177 σ29)) (fun τ31 => sg_let (sg_m1 177 2 σ29 τ31) (fun σ33 => sg_bnd (f_J4_append_cf468 117 (sg_e1 177 σ33)) (fun τ35 => sg_let (sg_m1 177 2 σ33 τ35) (fun σ37 => (if 0 < σ37 5 x1.toNatClampNeg then sg_bnd (f_J4_append_bf812 (σ37 5 x1.toNatClampNeg) (sg_e1 177 σ37)) (fun τ41 => sg_let (sg_m1 177 2 σ37 τ41) (fun σ43 => sg_bnd (f_J4_append_cf468 97 (sg_e1 177 σ43)) (fun τ45 => sg_let (sg_m1 177 2 σ43 τ45) (fun σ47 => sg_bnd (f_J4_length_8abf5  (sg_e1 177 σ47)) (fun r49 => some (r49, σ47)))))) else sg_bnd (f_J4_length_8abf5  (sg_e1 177 σ37)) (fun r39 => some (r39, σ37))))))))))))))))))))))))
set_option maxHeartbeats 4000000 in
set_option maxRecDepth 100000 in
theorem c_X7_write (l : Launch) {D : va_G} {Y : Nat → ClassId} {Z : (Nat → Prop) → State → Heap → Prop} (hZ : sg_Zok Z) {jK jV jT : Nat → Nat} (hJ : sg_ZJ Z jK jV jT) {ad : Nat → Nat} {σ : sg_S} {σ' : sg_S} {x1 : Int32} {r : Int32} (hF : f_X7_write x1 σ = some (r, σ')) : sg_XI l yX7_write wsX7_write 6 135 11 2200 D Y Z [.ref (ad 0), .int x1] (ww_X7TNI Y ad σ) (fun (r2 : Int32) (_ : Nat) => r2 = r) (fun q => (ww_X7TNI Y (sg_ua ad 178 q) σ')) := by
  intro sz
  refine sg_enterX (own := RX7) (maxL := 2) (ret := (some .int)) (cc := cX7_write) (by decide +kernel) rfl rfl (Nat.le_of_ble_eq_true rfl) hZ ?_
  intro p e s m args below meth c C hr hin Q hQ hsz
  have hJJ := hJ _ _ _ C.2.2.2.2.2.2.2.2.1
  refine g_lv (lv2 := [(0, .ref (ad 0)), (1, .int x1)]) [0, 1] rfl ?_
  rw [f_X7_write] at hF
  refine g_iload_n 1 C dX7_write_0 rfl rfl rfl ?_
  obtain ⟨r1, q2, hF⟩ := sg_bndE hF
  refine g_callSi 4 C (w2 := (ww_X7TNI Y ad σ)) (As := [.int x1]) (st := []) (n0 := 1) [] [0, 1, 2, 3, 4, 5, 6, 7, 8, 9, 10, 11, 12, 13, 14, 15] [0, 1, 2, 3, 4, 5, 6, 7, 8, 9, 10, 11, 12, 13, 14, 15] (c_X7_isTown l hZ (ad := ad) (σ := σ) q2) gX7_write_X7_isTown ⟨by decide +kernel, by decide +kernel, rfl⟩ rfl ⟨Nat.le_of_ble_eq_true rfl, Nat.le_of_ble_eq_true rfl⟩ ⟨rfl, rfl, rfl, by decide, rfl, rfl⟩ rfl rfl (Nat.le_of_ble_eq_true rfl) ⟨Nat.le_of_ble_eq_true rfl, Nat.le_of_ble_eq_true rfl⟩ dX7_write_1 rfl rfl ?_
  refine g_if_ne 7 9 C dX7_write_4 (by decide) rfl hF (fun hF => ?_) (fun hF => ?_)
  · refine g_aload_n 10 C dX7_write_9 rfl rfl rfl ?_
    refine g_get 13 C (own := RX7) (C1 := RX7) (T := TX7) 0 7 (.ref (ad 177)) kiX7_write_X7 kfX7_write_46 rfl dX7_write_10 rfl rfl rfl (by decide) rfl ?_
    refine g_iconst 14 C 0 dX7_write_13 rfl (by decide) ?_
    obtain ⟨τ3, q4, hF⟩ := sg_bndE hF
    obtain ⟨σ5, eσ5, hF⟩ := sg_letE hF
    refine g_callVv 17 C (w2 := (ww_X7TNI Y ad σ5)) (As := [.int 0]) (st := []) (n0 := 1) (ci := 1) (q0 := 14) [14, 15] [0, 1, 2, 3, 4, 5, 6, 7, 8, 9, 10, 11, 12, 13] [0, 1, 2, 3, 4, 5, 6, 7, 8, 9, 10, 11, 12, 13, 14, 15] (c_J4_setLength_d00df l hZ hJ (ad := (sg_e1 177 ad)) q4) gX7_write_J4_setLength_d00df ⟨rfl, by decide +kernel, by decide +kernel, rfl⟩ rfl ⟨Nat.le_of_ble_eq_true rfl, Nat.le_of_ble_eq_true rfl⟩ rfl rfl (by subst eσ5; exact ⟨rfl, rfl, rfl, by decide, rfl, rfl⟩) rfl rfl (Nat.le_of_ble_eq_true rfl) ⟨Nat.le_of_ble_eq_true rfl, Nat.le_of_ble_eq_true rfl⟩ dX7_write_14 rfl rfl ?_
    refine g_aload_n 18 C dX7_write_17 rfl rfl rfl ?_
    refine g_get 21 C (own := RX7) (C1 := RX7) (T := TX7) 0 7 (.ref (ad 177)) kiX7_write_X7 kfX7_write_46 rfl dX7_write_18 rfl rfl rfl (by decide) rfl ?_
    refine g_iload_n 22 C dX7_write_21 rfl rfl rfl ?_
    obtain ⟨τ6, q7, hF⟩ := sg_bndE hF
    obtain ⟨σ8, eσ8, hF⟩ := sg_letE hF
    refine g_XVr 25 C (w2 := fun q => (ww_X7TNI Y (sg_ua ad 178 q) σ8)) (As := [.int x1]) (st := []) (n0 := 1) (C2 := RJ4) (ci := 1) (q0 := 14) (c_J4_append_bf812 l hZ hJ (ad := (sg_e1 177 ad)) q7) gX7_write_J4_append_bf812 ⟨rfl, by decide +kernel, by decide +kernel, rfl⟩ rfl ⟨Nat.le_of_ble_eq_true rfl, Nat.le_of_ble_eq_true rfl⟩ rfl rfl (by subst eσ8; exact sg_cutMidX 14 2 rfl (fun _ => rfl)) rfl (Nat.le_of_ble_eq_true rfl) ⟨Nat.le_of_ble_eq_true rfl, Nat.le_of_ble_eq_true rfl⟩ dX7_write_22 rfl rfl (fun a9 _ => ?_)
    refine g_bipush 27 C 58 dX7_write_25 rfl (by decide) ?_
    obtain ⟨τ10, q11, hF⟩ := sg_bndE hF
    obtain ⟨σ12, eσ12, hF⟩ := sg_letE hF
    refine g_XVr 30 C (w2 := fun q => (ww_X7TNI Y (sg_ua ad 178 q) σ12)) (As := [.int 58]) (st := []) (n0 := 1) (C2 := RJ4) (ci := 1) (q0 := 14) (c_J4_append_cf468 l hZ hJ (ad := (sg_e1 177 (sg_ua ad 178 a9))) q11) gX7_write_J4_append_cf468 ⟨rfl, by decide +kernel, by decide +kernel, rfl⟩ rfl ⟨Nat.le_of_ble_eq_true rfl, Nat.le_of_ble_eq_true rfl⟩ rfl rfl (by subst eσ12; exact sg_cutMidX 14 2 rfl (fun _ => rfl)) rfl (Nat.le_of_ble_eq_true rfl) ⟨Nat.le_of_ble_eq_true rfl, Nat.le_of_ble_eq_true rfl⟩ dX7_write_27 rfl rfl (fun a13 _ => ?_)
    refine g_pop 31 C dX7_write_30 rfl rfl ?_
    refine g_aload_n 32 C dX7_write_31 rfl rfl rfl ?_
    refine g_get 35 C (own := RX7) (C1 := RX7) (T := TX7) 0 7 (.ref ((sg_ua ad 178 a13) 177)) kiX7_write_X7 kfX7_write_46 rfl dX7_write_32 rfl rfl rfl (by decide) rfl ?_
    refine g_aload_n 36 C dX7_write_35 rfl rfl rfl ?_
    refine g_get 39 C (own := RX7) (C1 := RX7) (T := TX7) 0 0 (.ref ((sg_ua ad 178 a13) 1)) kiX7_write_X7 kfX7_write_10 rfl dX7_write_36 rfl rfl rfl (by decide) rfl ?_
    refine g_get 42 C (own := RX7) (C1 := RX3) (T := TX3) 1 1 (.ref ((sg_ua ad 178 a13) 2)) kiX7_write_X3 kfX7_write_154 rfl dX7_write_39 rfl rfl rfl (by decide) rfl ?_
    refine g_iload_n 43 C dX7_write_42 rfl rfl rfl ?_
    obtain ⟨h14, hF⟩ := sg_grdE hF
    refine g_ialdc 44 C 2 (x1.toNatClampNeg) (σ12 2 x1.toNatClampNeg) dX7_write_43 rfl rfl rfl h14 rfl ?_
    obtain ⟨τ15, q16, hF⟩ := sg_bndE hF
    obtain ⟨σ17, eσ17, hF⟩ := sg_letE hF
    refine g_XVr 47 C (w2 := fun q => (ww_X7TNI Y (sg_ua ad 178 q) σ17)) (As := [.int (σ12 2 x1.toNatClampNeg)]) (st := []) (n0 := 1) (C2 := RJ4) (ci := 1) (q0 := 14) (c_J4_append_bf812 l hZ hJ (ad := (sg_e1 177 (sg_ua ad 178 a13))) q16) gX7_write_J4_append_bf812 ⟨rfl, by decide +kernel, by decide +kernel, rfl⟩ rfl ⟨Nat.le_of_ble_eq_true rfl, Nat.le_of_ble_eq_true rfl⟩ rfl rfl (by subst eσ17; exact sg_cutMidX 14 2 rfl (fun _ => rfl)) rfl (Nat.le_of_ble_eq_true rfl) ⟨Nat.le_of_ble_eq_true rfl, Nat.le_of_ble_eq_true rfl⟩ dX7_write_44 rfl rfl (fun a18 _ => ?_)
    refine g_bipush 49 C 115 dX7_write_47 rfl (by decide) ?_
    obtain ⟨τ19, q20, hF⟩ := sg_bndE hF
    obtain ⟨σ21, eσ21, hF⟩ := sg_letE hF
    refine g_XVr 52 C (w2 := fun q => (ww_X7TNI Y (sg_ua ad 178 q) σ21)) (As := [.int 115]) (st := []) (n0 := 1) (C2 := RJ4) (ci := 1) (q0 := 14) (c_J4_append_cf468 l hZ hJ (ad := (sg_e1 177 (sg_ua ad 178 a18))) q20) gX7_write_J4_append_cf468 ⟨rfl, by decide +kernel, by decide +kernel, rfl⟩ rfl ⟨Nat.le_of_ble_eq_true rfl, Nat.le_of_ble_eq_true rfl⟩ rfl rfl (by subst eσ21; exact sg_cutMidX 14 2 rfl (fun _ => rfl)) rfl (Nat.le_of_ble_eq_true rfl) ⟨Nat.le_of_ble_eq_true rfl, Nat.le_of_ble_eq_true rfl⟩ dX7_write_49 rfl rfl (fun a22 _ => ?_)
    refine g_pop 53 C dX7_write_52 rfl rfl ?_
    refine g_aload_n 54 C dX7_write_53 rfl rfl rfl ?_
    refine g_get 57 C (own := RX7) (C1 := RX7) (T := TX7) 0 7 (.ref ((sg_ua ad 178 a22) 177)) kiX7_write_X7 kfX7_write_46 rfl dX7_write_54 rfl rfl rfl (by decide) rfl ?_
    refine g_aload_n 58 C dX7_write_57 rfl rfl rfl ?_
    refine g_get 61 C (own := RX7) (C1 := RX7) (T := TX7) 0 0 (.ref ((sg_ua ad 178 a22) 1)) kiX7_write_X7 kfX7_write_10 rfl dX7_write_58 rfl rfl rfl (by decide) rfl ?_
    refine g_get 64 C (own := RX7) (C1 := RX3) (T := TX3) 1 2 (.ref ((sg_ua ad 178 a22) 3)) kiX7_write_X3 kfX7_write_203 rfl dX7_write_61 rfl rfl rfl (by decide) rfl ?_
    refine g_iload_n 65 C dX7_write_64 rfl rfl rfl ?_
    refine g_ialdc 66 C 3 (x1.toNatClampNeg) (σ21 3 x1.toNatClampNeg) dX7_write_65 rfl rfl rfl h14 rfl ?_
    obtain ⟨τ23, q24, hF⟩ := sg_bndE hF
    obtain ⟨σ25, eσ25, hF⟩ := sg_letE hF
    refine g_XVr 69 C (w2 := fun q => (ww_X7TNI Y (sg_ua ad 178 q) σ25)) (As := [.int (σ21 3 x1.toNatClampNeg)]) (st := []) (n0 := 1) (C2 := RJ4) (ci := 1) (q0 := 14) (c_J4_append_bf812 l hZ hJ (ad := (sg_e1 177 (sg_ua ad 178 a22))) q24) gX7_write_J4_append_bf812 ⟨rfl, by decide +kernel, by decide +kernel, rfl⟩ rfl ⟨Nat.le_of_ble_eq_true rfl, Nat.le_of_ble_eq_true rfl⟩ rfl rfl (by subst eσ25; exact sg_cutMidX 14 2 rfl (fun _ => rfl)) rfl (Nat.le_of_ble_eq_true rfl) ⟨Nat.le_of_ble_eq_true rfl, Nat.le_of_ble_eq_true rfl⟩ dX7_write_66 rfl rfl (fun a26 _ => ?_)
    refine g_bipush 71 C 114 dX7_write_69 rfl (by decide) ?_
    obtain ⟨τ27, q28, hF⟩ := sg_bndE hF
    obtain ⟨σ29, eσ29, hF⟩ := sg_letE hF
    refine g_XVr 74 C (w2 := fun q => (ww_X7TNI Y (sg_ua ad 178 q) σ29)) (As := [.int 114]) (st := []) (n0 := 1) (C2 := RJ4) (ci := 1) (q0 := 14) (c_J4_append_cf468 l hZ hJ (ad := (sg_e1 177 (sg_ua ad 178 a26))) q28) gX7_write_J4_append_cf468 ⟨rfl, by decide +kernel, by decide +kernel, rfl⟩ rfl ⟨Nat.le_of_ble_eq_true rfl, Nat.le_of_ble_eq_true rfl⟩ rfl rfl (by subst eσ29; exact sg_cutMidX 14 2 rfl (fun _ => rfl)) rfl (Nat.le_of_ble_eq_true rfl) ⟨Nat.le_of_ble_eq_true rfl, Nat.le_of_ble_eq_true rfl⟩ dX7_write_71 rfl rfl (fun a30 _ => ?_)
    refine g_pop 75 C dX7_write_74 rfl rfl ?_
    refine g_aload_n 76 C dX7_write_75 rfl rfl rfl ?_
    refine g_get 79 C (own := RX7) (C1 := RX7) (T := TX7) 0 7 (.ref ((sg_ua ad 178 a30) 177)) kiX7_write_X7 kfX7_write_46 rfl dX7_write_76 rfl rfl rfl (by decide) rfl ?_
    refine g_aload_n 80 C dX7_write_79 rfl rfl rfl ?_
    refine g_get 83 C (own := RX7) (C1 := RX7) (T := TX7) 0 0 (.ref ((sg_ua ad 178 a30) 1)) kiX7_write_X7 kfX7_write_10 rfl dX7_write_80 rfl rfl rfl (by decide) rfl ?_
    refine g_get 86 C (own := RX7) (C1 := RX3) (T := TX3) 1 3 (.ref ((sg_ua ad 178 a30) 4)) kiX7_write_X3 kfX7_write_206 rfl dX7_write_83 rfl rfl rfl (by decide) rfl ?_
    refine g_iload_n 87 C dX7_write_86 rfl rfl rfl ?_
    refine g_ialdc 88 C 4 (x1.toNatClampNeg) (σ29 4 x1.toNatClampNeg) dX7_write_87 rfl rfl rfl h14 rfl ?_
    obtain ⟨τ31, q32, hF⟩ := sg_bndE hF
    obtain ⟨σ33, eσ33, hF⟩ := sg_letE hF
    refine g_XVr 91 C (w2 := fun q => (ww_X7TNI Y (sg_ua ad 178 q) σ33)) (As := [.int (σ29 4 x1.toNatClampNeg)]) (st := []) (n0 := 1) (C2 := RJ4) (ci := 1) (q0 := 14) (c_J4_append_bf812 l hZ hJ (ad := (sg_e1 177 (sg_ua ad 178 a30))) q32) gX7_write_J4_append_bf812 ⟨rfl, by decide +kernel, by decide +kernel, rfl⟩ rfl ⟨Nat.le_of_ble_eq_true rfl, Nat.le_of_ble_eq_true rfl⟩ rfl rfl (by subst eσ33; exact sg_cutMidX 14 2 rfl (fun _ => rfl)) rfl (Nat.le_of_ble_eq_true rfl) ⟨Nat.le_of_ble_eq_true rfl, Nat.le_of_ble_eq_true rfl⟩ dX7_write_88 rfl rfl (fun a34 _ => ?_)
    refine g_bipush 93 C 117 dX7_write_91 rfl (by decide) ?_
    obtain ⟨τ35, q36, hF⟩ := sg_bndE hF
    obtain ⟨σ37, eσ37, hF⟩ := sg_letE hF
    refine g_XVr 96 C (w2 := fun q => (ww_X7TNI Y (sg_ua ad 178 q) σ37)) (As := [.int 117]) (st := []) (n0 := 1) (C2 := RJ4) (ci := 1) (q0 := 14) (c_J4_append_cf468 l hZ hJ (ad := (sg_e1 177 (sg_ua ad 178 a34))) q36) gX7_write_J4_append_cf468 ⟨rfl, by decide +kernel, by decide +kernel, rfl⟩ rfl ⟨Nat.le_of_ble_eq_true rfl, Nat.le_of_ble_eq_true rfl⟩ rfl rfl (by subst eσ37; exact sg_cutMidX 14 2 rfl (fun _ => rfl)) rfl (Nat.le_of_ble_eq_true rfl) ⟨Nat.le_of_ble_eq_true rfl, Nat.le_of_ble_eq_true rfl⟩ dX7_write_93 rfl rfl (fun a38 _ => ?_)
    refine g_pop 97 C dX7_write_96 rfl rfl ?_
    refine g_aload_n 98 C dX7_write_97 rfl rfl rfl ?_
    refine g_get 101 C (own := RX7) (C1 := RX7) (T := TX7) 0 0 (.ref ((sg_ua ad 178 a38) 1)) kiX7_write_X7 kfX7_write_10 rfl dX7_write_98 rfl rfl rfl (by decide) rfl ?_
    refine g_get 104 C (own := RX7) (C1 := RX3) (T := TX3) 1 4 (.ref ((sg_ua ad 178 a38) 5)) kiX7_write_X3 kfX7_write_148 rfl dX7_write_101 rfl rfl rfl (by decide) rfl ?_
    refine g_iload_n 105 C dX7_write_104 rfl rfl rfl ?_
    refine g_ialdc 106 C 5 (x1.toNatClampNeg) (σ37 5 x1.toNatClampNeg) dX7_write_105 rfl rfl rfl h14 rfl ?_
    refine g_if_le 109 131 C dX7_write_106 (by decide) rfl hF (fun hF => ?_) (fun hF => ?_)
    · refine g_aload_n 132 C dX7_write_131 rfl rfl rfl ?_
      refine g_get 135 C (own := RX7) (C1 := RX7) (T := TX7) 0 7 (.ref ((sg_ua ad 178 a38) 177)) kiX7_write_X7 kfX7_write_46 rfl dX7_write_132 rfl rfl rfl (by decide) rfl ?_
      obtain ⟨r39, q40, hF⟩ := sg_bndE hF
      refine g_callVi 138 C (w2 := (ww_X7TNI Y (sg_ua ad 178 a38) σ37)) (As := []) (st := []) (n0 := 0) (ci := 1) (q0 := 14) [14, 15] [0, 1, 2, 3, 4, 5, 6, 7, 8, 9, 10, 11, 12, 13] [0, 1, 2, 3, 4, 5, 6, 7, 8, 9, 10, 11, 12, 13, 14, 15] (c_J4_length_8abf5 l hZ (ad := (sg_e1 177 (sg_ua ad 178 a38))) q40) gX7_write_J4_length_8abf5 ⟨rfl, by decide +kernel, by decide +kernel, rfl⟩ rfl ⟨Nat.le_of_ble_eq_true rfl, Nat.le_of_ble_eq_true rfl⟩ rfl rfl ⟨rfl, rfl, rfl, by decide, rfl, rfl⟩ rfl rfl (Nat.le_of_ble_eq_true rfl) ⟨Nat.le_of_ble_eq_true rfl, Nat.le_of_ble_eq_true rfl⟩ dX7_write_135 rfl rfl ?_
      obtain ⟨e1, e2⟩ := sg_pairE hF
      refine g_widen 11 2200 (Nat.le_of_ble_eq_true rfl) (Nat.le_of_ble_eq_true rfl) ?_
      exact g_iretX (P := fun (r2 : Int32) (_ : Nat) => r2 = r) (w' := fun q => (ww_X7TNI Y (sg_ua ad 178 q) σ')) (a38) C hr rfl hQ hsz dX7_write_138 e1.symm (by subst e2; rfl)
    · refine g_aload_n 110 C dX7_write_109 rfl rfl rfl ?_
      refine g_get 113 C (own := RX7) (C1 := RX7) (T := TX7) 0 7 (.ref ((sg_ua ad 178 a38) 177)) kiX7_write_X7 kfX7_write_46 rfl dX7_write_110 rfl rfl rfl (by decide) rfl ?_
      refine g_aload_n 114 C dX7_write_113 rfl rfl rfl ?_
      refine g_get 117 C (own := RX7) (C1 := RX7) (T := TX7) 0 0 (.ref ((sg_ua ad 178 a38) 1)) kiX7_write_X7 kfX7_write_10 rfl dX7_write_114 rfl rfl rfl (by decide) rfl ?_
      refine g_get 120 C (own := RX7) (C1 := RX3) (T := TX3) 1 4 (.ref ((sg_ua ad 178 a38) 5)) kiX7_write_X3 kfX7_write_148 rfl dX7_write_117 rfl rfl rfl (by decide) rfl ?_
      refine g_iload_n 121 C dX7_write_120 rfl rfl rfl ?_
      refine g_ialdc 122 C 5 (x1.toNatClampNeg) (σ37 5 x1.toNatClampNeg) dX7_write_121 rfl rfl rfl h14 rfl ?_
      obtain ⟨τ41, q42, hF⟩ := sg_bndE hF
      obtain ⟨σ43, eσ43, hF⟩ := sg_letE hF
      refine g_XVr 125 C (w2 := fun q => (ww_X7TNI Y (sg_ua ad 178 q) σ43)) (As := [.int (σ37 5 x1.toNatClampNeg)]) (st := []) (n0 := 1) (C2 := RJ4) (ci := 1) (q0 := 14) (c_J4_append_bf812 l hZ hJ (ad := (sg_e1 177 (sg_ua ad 178 a38))) q42) gX7_write_J4_append_bf812 ⟨rfl, by decide +kernel, by decide +kernel, rfl⟩ rfl ⟨Nat.le_of_ble_eq_true rfl, Nat.le_of_ble_eq_true rfl⟩ rfl rfl (by subst eσ43; exact sg_cutMidX 14 2 rfl (fun _ => rfl)) rfl (Nat.le_of_ble_eq_true rfl) ⟨Nat.le_of_ble_eq_true rfl, Nat.le_of_ble_eq_true rfl⟩ dX7_write_122 rfl rfl (fun a44 _ => ?_)
      refine g_bipush 127 C 97 dX7_write_125 rfl (by decide) ?_
      obtain ⟨τ45, q46, hF⟩ := sg_bndE hF
      obtain ⟨σ47, eσ47, hF⟩ := sg_letE hF
      refine g_XVr 130 C (w2 := fun q => (ww_X7TNI Y (sg_ua ad 178 q) σ47)) (As := [.int 97]) (st := []) (n0 := 1) (C2 := RJ4) (ci := 1) (q0 := 14) (c_J4_append_cf468 l hZ hJ (ad := (sg_e1 177 (sg_ua ad 178 a44))) q46) gX7_write_J4_append_cf468 ⟨rfl, by decide +kernel, by decide +kernel, rfl⟩ rfl ⟨Nat.le_of_ble_eq_true rfl, Nat.le_of_ble_eq_true rfl⟩ rfl rfl (by subst eσ47; exact sg_cutMidX 14 2 rfl (fun _ => rfl)) rfl (Nat.le_of_ble_eq_true rfl) ⟨Nat.le_of_ble_eq_true rfl, Nat.le_of_ble_eq_true rfl⟩ dX7_write_127 rfl rfl (fun a48 _ => ?_)
      refine g_pop 131 C dX7_write_130 rfl rfl ?_
      refine g_aload_n 132 C dX7_write_131 rfl rfl rfl ?_
      refine g_get 135 C (own := RX7) (C1 := RX7) (T := TX7) 0 7 (.ref ((sg_ua ad 178 a48) 177)) kiX7_write_X7 kfX7_write_46 rfl dX7_write_132 rfl rfl rfl (by decide) rfl ?_
      obtain ⟨r49, q50, hF⟩ := sg_bndE hF
      refine g_callVi 138 C (w2 := (ww_X7TNI Y (sg_ua ad 178 a48) σ47)) (As := []) (st := []) (n0 := 0) (ci := 1) (q0 := 14) [14, 15] [0, 1, 2, 3, 4, 5, 6, 7, 8, 9, 10, 11, 12, 13] [0, 1, 2, 3, 4, 5, 6, 7, 8, 9, 10, 11, 12, 13, 14, 15] (c_J4_length_8abf5 l hZ (ad := (sg_e1 177 (sg_ua ad 178 a48))) q50) gX7_write_J4_length_8abf5 ⟨rfl, by decide +kernel, by decide +kernel, rfl⟩ rfl ⟨Nat.le_of_ble_eq_true rfl, Nat.le_of_ble_eq_true rfl⟩ rfl rfl ⟨rfl, rfl, rfl, by decide, rfl, rfl⟩ rfl rfl (Nat.le_of_ble_eq_true rfl) ⟨Nat.le_of_ble_eq_true rfl, Nat.le_of_ble_eq_true rfl⟩ dX7_write_135 rfl rfl ?_
      obtain ⟨e1, e2⟩ := sg_pairE hF
      refine g_widen 11 2200 (Nat.le_of_ble_eq_true rfl) (Nat.le_of_ble_eq_true rfl) ?_
      exact g_iretX (P := fun (r2 : Int32) (_ : Nat) => r2 = r) (w' := fun q => (ww_X7TNI Y (sg_ua ad 178 q) σ')) (a48) C hr rfl hQ hsz dX7_write_138 e1.symm (by subst e2; rfl)
  · refine g_iconst 8 C (-1) dX7_write_7 rfl (by decide) ?_
    obtain ⟨e1, e2⟩ := sg_pairE hF
    refine g_widen 11 2200 (Nat.le_of_ble_eq_true rfl) (Nat.le_of_ble_eq_true rfl) ?_
    exact g_iretX (P := fun (r2 : Int32) (_ : Nat) => r2 = r) (w' := fun q => (ww_X7TNI Y (sg_ua ad 178 q) σ')) (ad 178) C hr rfl hQ hsz dX7_write_8 e1.symm (by subst e2; rfl)
theorem kiX7_writeCredits_X7 : ∀ w ∈ u_ws RX7 TX7 10, w ∈ wsX7_writeCredits := by decide +kernel
theorem kfX7_writeCredits_46 : Cond.fieldLink RX7 46 "WeatherMinistry" "line" "Ljava/lang/StringBuilder;" ∈ wsX7_writeCredits := by decide +kernel
theorem kfX7_writeCredits_10 : Cond.fieldLink RX7 10 "WeatherMinistry" "now" "LWeatherMinistry$Realm;" ∈ wsX7_writeCredits := by decide +kernel
theorem kiX7_writeCredits_X3 : ∀ w ∈ u_ws RX3 TX3 8, w ∈ wsX7_writeCredits := by decide +kernel
theorem kfX7_writeCredits_69 : Cond.fieldLink RX7 69 "WeatherMinistry$Realm" "credits" "LWeatherMinistry$Credits;" ∈ wsX7_writeCredits := by decide +kernel
theorem kiX7_writeCredits_X1 : ∀ w ∈ u_ws RX1 TX1 4, w ∈ wsX7_writeCredits := by decide +kernel
theorem kfX7_writeCredits_151 : Cond.fieldLink RX7 151 "WeatherMinistry$Credits" "count" "I" ∈ wsX7_writeCredits := by decide +kernel
theorem kfX7_writeCredits_98 : Cond.fieldLink RX7 98 "WeatherMinistry$Credits" "towns" "[I" ∈ wsX7_writeCredits := by decide +kernel
theorem kfX7_writeCredits_102 : Cond.fieldLink RX7 102 "WeatherMinistry$Credits" "hours" "[I" ∈ wsX7_writeCredits := by decide +kernel
theorem kfX7_writeCredits_105 : Cond.fieldLink RX7 105 "WeatherMinistry$Credits" "ends" "[I" ∈ wsX7_writeCredits := by decide +kernel
def f_X7_writeCredits_J38 (κ10 : Int32 → sg_S → Option (Int32 × sg_S)) (z1 : Int32) (σz : sg_S) : Option (Int32 × sg_S) := sg_grd (sg_in z1 8) (sg_bnd (f_J4_append_bf812 (σz 10 z1.toNatClampNeg) (sg_e1 177 σz)) (fun τ7 => sg_let (sg_m1 177 2 σz τ7) (fun σ9 => sg_bnd (f_J4_append_cf468 42 (sg_e1 177 σ9)) (fun τ11 => sg_let (sg_m1 177 2 σ9 τ11) (fun σ13 => sg_bnd (f_J4_append_bf812 (σ13 11 z1.toNatClampNeg) (sg_e1 177 σ13)) (fun τ15 => sg_let (sg_m1 177 2 σ13 τ15) (fun σ17 => sg_bnd (f_J4_append_cf468 64 (sg_e1 177 σ17)) (fun τ19 => sg_let (sg_m1 177 2 σ17 τ19) (fun σ21 => sg_bnd (f_J4_append_bf812 (σ21 12 z1.toNatClampNeg) (sg_e1 177 σ21)) (fun τ23 => sg_let (sg_m1 177 2 σ21 τ23) (fun σ25 => κ10 (z1 + 1) σ25)))))))))))
def f_X7_writeCredits_L10 : Nat → Int32 → sg_S → Option (Int32 × sg_S)
  | 0, _, _ => none
  | nz + 1, z1, σz => (if z1 < σz 9 0 then (if 0 < z1 then sg_bnd (f_J4_append_cf468 32 (sg_e1 177 σz)) (fun τ27 => sg_let (sg_m1 177 2 σz τ27) (fun σ29 => f_X7_writeCredits_J38 (fun z1' σz' => f_X7_writeCredits_L10 nz z1' σz') z1 σ29)) else f_X7_writeCredits_J38 (fun z1' σz' => f_X7_writeCredits_L10 nz z1' σz') z1 σz) else sg_bnd (f_J4_length_8abf5  (sg_e1 177 σz)) (fun r4 => some (r4, σz)))
def f_X7_writeCredits  (σ : sg_S) : Option (Int32 × sg_S) := sg_bnd (f_J4_setLength_d00df 0 (sg_e1 177 σ)) (fun τ1 => sg_let (sg_m1 177 2 σ τ1) (fun σ3 => f_X7_writeCredits_L10 1000 0 σ3))
set_option maxHeartbeats 4000000 in
set_option maxRecDepth 100000 in
theorem c_X7_writeCredits (l : Launch) {D : va_G} {Y : Nat → ClassId} {Z : (Nat → Prop) → State → Heap → Prop} (hZ : sg_Zok Z) {jK jV jT : Nat → Nat} (hJ : sg_ZJ Z jK jV jT) {ad : Nat → Nat} {σ : sg_S} {σ' : sg_S} {r : Int32} (hF : f_X7_writeCredits  σ = some (r, σ')) : sg_XI l yX7_writeCredits wsX7_writeCredits 6 135 54 10800 D Y Z [.ref (ad 0)] (ww_X7TNI Y ad σ) (fun (r2 : Int32) (_ : Nat) => r2 = r) (fun q => (ww_X7TNI Y (sg_ua ad 178 q) σ')) := by
  intro sz
  refine sg_enterX (own := RX7) (maxL := 2) (ret := (some .int)) (cc := cX7_writeCredits) (by decide +kernel) rfl rfl (Nat.le_of_ble_eq_true rfl) hZ ?_
  intro p e s m args below meth c C hr hin Q hQ hsz
  have hJJ := hJ _ _ _ C.2.2.2.2.2.2.2.2.1
  refine g_lv (lv2 := [(0, .ref (ad 0))]) [0] rfl ?_
  have K38 : ∀ (κ10 : Int32 → sg_S → Option (Int32 × sg_S)), (∀ (z1 : Int32) (σz : sg_S) (qz : Nat) (hz : z1.toNatClampNeg ≤ 8), κ10 z1 σz = some (r, σ') → sg_G p l e ({ frames := 6, cells := 54, slots := 10800, locals := 135 } : Room) s m args below meth c D (va_A (ww_X7TNI Y ad σ) s.heap.size) 2 (6 * z1.toNatClampNeg) (200 * (6 * z1.toNatClampNeg)) Q 10 [(0, .ref (ad 0)), (1, .int z1)] [] (ww_X7TNI Y (sg_ua ad 178 qz) σz)) → ∀ (z1 : Int32) (σz : sg_S) (qz : Nat) (hz : z1.toNatClampNeg ≤ 8), f_X7_writeCredits_J38 κ10 z1 σz = some (r, σ') → sg_G p l e ({ frames := 6, cells := 54, slots := 10800, locals := 135 } : Room) s m args below meth c D (va_A (ww_X7TNI Y ad σ) s.heap.size) 2 (6 * z1.toNatClampNeg + 1) (200 * (6 * z1.toNatClampNeg + 1)) Q 38 [(0, .ref (ad 0)), (1, .int z1)] [] (ww_X7TNI Y (sg_ua ad 178 qz) σz) := by
    intro κ10 hκ10 z1 σz qz hz hF
    rw [f_X7_writeCredits_J38] at hF
    refine g_aload_n 39 C dX7_writeCredits_38 rfl rfl rfl ?_
    refine g_get 42 C (own := RX7) (C1 := RX7) (T := TX7) 0 7 (.ref ((sg_ua ad 178 qz) 177)) kiX7_writeCredits_X7 kfX7_writeCredits_46 rfl dX7_writeCredits_39 rfl rfl rfl (by decide) rfl ?_
    refine g_aload_n 43 C dX7_writeCredits_42 rfl rfl rfl ?_
    refine g_get 46 C (own := RX7) (C1 := RX7) (T := TX7) 0 0 (.ref ((sg_ua ad 178 qz) 1)) kiX7_writeCredits_X7 kfX7_writeCredits_10 rfl dX7_writeCredits_43 rfl rfl rfl (by decide) rfl ?_
    refine g_get 49 C (own := RX7) (C1 := RX3) (T := TX3) 1 6 (.ref ((sg_ua ad 178 qz) 9)) kiX7_writeCredits_X3 kfX7_writeCredits_69 rfl dX7_writeCredits_46 rfl rfl rfl (by decide) rfl ?_
    refine g_get 52 C (own := RX7) (C1 := RX1) (T := TX1) 9 1 (.ref ((sg_ua ad 178 qz) 10)) kiX7_writeCredits_X1 kfX7_writeCredits_98 rfl dX7_writeCredits_49 rfl rfl rfl (by decide) rfl ?_
    refine g_iload_n 53 C dX7_writeCredits_52 rfl rfl rfl ?_
    obtain ⟨h6, hF⟩ := sg_grdE hF
    refine g_ialdc 54 C 10 (z1.toNatClampNeg) (σz 10 z1.toNatClampNeg) dX7_writeCredits_53 rfl rfl rfl h6 rfl ?_
    obtain ⟨τ7, q8, hF⟩ := sg_bndE hF
    obtain ⟨σ9, eσ9, hF⟩ := sg_letE hF
    refine g_XVr 57 C (w2 := fun q => (ww_X7TNI Y (sg_ua ad 178 q) σ9)) (As := [.int (σz 10 z1.toNatClampNeg)]) (st := []) (n0 := 1) (C2 := RJ4) (ci := 1) (q0 := 14) (c_J4_append_bf812 l hZ hJ (ad := (sg_e1 177 (sg_ua ad 178 qz))) q8) gX7_writeCredits_J4_append_bf812 ⟨rfl, by decide +kernel, by decide +kernel, rfl⟩ rfl ⟨Nat.le_of_ble_eq_true rfl, Nat.le_of_ble_eq_true rfl⟩ rfl rfl (by subst eσ9; exact sg_cutMidX 14 2 rfl (fun _ => rfl)) rfl (Nat.le_of_ble_eq_true rfl) ⟨by show _ ≤ 54; omega, by show _ ≤ 10800; omega⟩ dX7_writeCredits_54 rfl rfl (fun a10 _ => ?_)
    refine g_bipush 59 C 42 dX7_writeCredits_57 rfl (by decide) ?_
    obtain ⟨τ11, q12, hF⟩ := sg_bndE hF
    obtain ⟨σ13, eσ13, hF⟩ := sg_letE hF
    refine g_XVr 62 C (w2 := fun q => (ww_X7TNI Y (sg_ua ad 178 q) σ13)) (As := [.int 42]) (st := []) (n0 := 1) (C2 := RJ4) (ci := 1) (q0 := 14) (c_J4_append_cf468 l hZ hJ (ad := (sg_e1 177 (sg_ua ad 178 a10))) q12) gX7_writeCredits_J4_append_cf468 ⟨rfl, by decide +kernel, by decide +kernel, rfl⟩ rfl ⟨Nat.le_of_ble_eq_true rfl, Nat.le_of_ble_eq_true rfl⟩ rfl rfl (by subst eσ13; exact sg_cutMidX 14 2 rfl (fun _ => rfl)) rfl (Nat.le_of_ble_eq_true rfl) ⟨by show _ ≤ 54; omega, by show _ ≤ 10800; omega⟩ dX7_writeCredits_59 rfl rfl (fun a14 _ => ?_)
    refine g_pop 63 C dX7_writeCredits_62 rfl rfl ?_
    refine g_aload_n 64 C dX7_writeCredits_63 rfl rfl rfl ?_
    refine g_get 67 C (own := RX7) (C1 := RX7) (T := TX7) 0 7 (.ref ((sg_ua ad 178 a14) 177)) kiX7_writeCredits_X7 kfX7_writeCredits_46 rfl dX7_writeCredits_64 rfl rfl rfl (by decide) rfl ?_
    refine g_aload_n 68 C dX7_writeCredits_67 rfl rfl rfl ?_
    refine g_get 71 C (own := RX7) (C1 := RX7) (T := TX7) 0 0 (.ref ((sg_ua ad 178 a14) 1)) kiX7_writeCredits_X7 kfX7_writeCredits_10 rfl dX7_writeCredits_68 rfl rfl rfl (by decide) rfl ?_
    refine g_get 74 C (own := RX7) (C1 := RX3) (T := TX3) 1 6 (.ref ((sg_ua ad 178 a14) 9)) kiX7_writeCredits_X3 kfX7_writeCredits_69 rfl dX7_writeCredits_71 rfl rfl rfl (by decide) rfl ?_
    refine g_get 77 C (own := RX7) (C1 := RX1) (T := TX1) 9 2 (.ref ((sg_ua ad 178 a14) 11)) kiX7_writeCredits_X1 kfX7_writeCredits_102 rfl dX7_writeCredits_74 rfl rfl rfl (by decide) rfl ?_
    refine g_iload_n 78 C dX7_writeCredits_77 rfl rfl rfl ?_
    refine g_ialdc 79 C 11 (z1.toNatClampNeg) (σ13 11 z1.toNatClampNeg) dX7_writeCredits_78 rfl rfl rfl h6 rfl ?_
    obtain ⟨τ15, q16, hF⟩ := sg_bndE hF
    obtain ⟨σ17, eσ17, hF⟩ := sg_letE hF
    refine g_XVr 82 C (w2 := fun q => (ww_X7TNI Y (sg_ua ad 178 q) σ17)) (As := [.int (σ13 11 z1.toNatClampNeg)]) (st := []) (n0 := 1) (C2 := RJ4) (ci := 1) (q0 := 14) (c_J4_append_bf812 l hZ hJ (ad := (sg_e1 177 (sg_ua ad 178 a14))) q16) gX7_writeCredits_J4_append_bf812 ⟨rfl, by decide +kernel, by decide +kernel, rfl⟩ rfl ⟨Nat.le_of_ble_eq_true rfl, Nat.le_of_ble_eq_true rfl⟩ rfl rfl (by subst eσ17; exact sg_cutMidX 14 2 rfl (fun _ => rfl)) rfl (Nat.le_of_ble_eq_true rfl) ⟨by show _ ≤ 54; omega, by show _ ≤ 10800; omega⟩ dX7_writeCredits_79 rfl rfl (fun a18 _ => ?_)
    refine g_bipush 84 C 64 dX7_writeCredits_82 rfl (by decide) ?_
    obtain ⟨τ19, q20, hF⟩ := sg_bndE hF
    obtain ⟨σ21, eσ21, hF⟩ := sg_letE hF
    refine g_XVr 87 C (w2 := fun q => (ww_X7TNI Y (sg_ua ad 178 q) σ21)) (As := [.int 64]) (st := []) (n0 := 1) (C2 := RJ4) (ci := 1) (q0 := 14) (c_J4_append_cf468 l hZ hJ (ad := (sg_e1 177 (sg_ua ad 178 a18))) q20) gX7_writeCredits_J4_append_cf468 ⟨rfl, by decide +kernel, by decide +kernel, rfl⟩ rfl ⟨Nat.le_of_ble_eq_true rfl, Nat.le_of_ble_eq_true rfl⟩ rfl rfl (by subst eσ21; exact sg_cutMidX 14 2 rfl (fun _ => rfl)) rfl (Nat.le_of_ble_eq_true rfl) ⟨by show _ ≤ 54; omega, by show _ ≤ 10800; omega⟩ dX7_writeCredits_84 rfl rfl (fun a22 _ => ?_)
    refine g_pop 88 C dX7_writeCredits_87 rfl rfl ?_
    refine g_aload_n 89 C dX7_writeCredits_88 rfl rfl rfl ?_
    refine g_get 92 C (own := RX7) (C1 := RX7) (T := TX7) 0 7 (.ref ((sg_ua ad 178 a22) 177)) kiX7_writeCredits_X7 kfX7_writeCredits_46 rfl dX7_writeCredits_89 rfl rfl rfl (by decide) rfl ?_
    refine g_aload_n 93 C dX7_writeCredits_92 rfl rfl rfl ?_
    refine g_get 96 C (own := RX7) (C1 := RX7) (T := TX7) 0 0 (.ref ((sg_ua ad 178 a22) 1)) kiX7_writeCredits_X7 kfX7_writeCredits_10 rfl dX7_writeCredits_93 rfl rfl rfl (by decide) rfl ?_
    refine g_get 99 C (own := RX7) (C1 := RX3) (T := TX3) 1 6 (.ref ((sg_ua ad 178 a22) 9)) kiX7_writeCredits_X3 kfX7_writeCredits_69 rfl dX7_writeCredits_96 rfl rfl rfl (by decide) rfl ?_
    refine g_get 102 C (own := RX7) (C1 := RX1) (T := TX1) 9 3 (.ref ((sg_ua ad 178 a22) 12)) kiX7_writeCredits_X1 kfX7_writeCredits_105 rfl dX7_writeCredits_99 rfl rfl rfl (by decide) rfl ?_
    refine g_iload_n 103 C dX7_writeCredits_102 rfl rfl rfl ?_
    refine g_ialdc 104 C 12 (z1.toNatClampNeg) (σ21 12 z1.toNatClampNeg) dX7_writeCredits_103 rfl rfl rfl h6 rfl ?_
    obtain ⟨τ23, q24, hF⟩ := sg_bndE hF
    obtain ⟨σ25, eσ25, hF⟩ := sg_letE hF
    refine g_XVr 107 C (w2 := fun q => (ww_X7TNI Y (sg_ua ad 178 q) σ25)) (As := [.int (σ21 12 z1.toNatClampNeg)]) (st := []) (n0 := 1) (C2 := RJ4) (ci := 1) (q0 := 14) (c_J4_append_bf812 l hZ hJ (ad := (sg_e1 177 (sg_ua ad 178 a22))) q24) gX7_writeCredits_J4_append_bf812 ⟨rfl, by decide +kernel, by decide +kernel, rfl⟩ rfl ⟨Nat.le_of_ble_eq_true rfl, Nat.le_of_ble_eq_true rfl⟩ rfl rfl (by subst eσ25; exact sg_cutMidX 14 2 rfl (fun _ => rfl)) rfl (Nat.le_of_ble_eq_true rfl) ⟨by show _ ≤ 54; omega, by show _ ≤ 10800; omega⟩ dX7_writeCredits_104 rfl rfl (fun a26 _ => ?_)
    refine g_pop 108 C dX7_writeCredits_107 rfl rfl ?_
    refine g_iinc 111 C 1 (z1 + 1) [(1, .int (z1 + 1)), (0, .ref (ad 0))] dX7_writeCredits_108 rfl rfl rfl (by decide) rfl ?_
    refine g_goto 10 C dX7_writeCredits_111 (by decide) ?_
    refine g_lv (lv2 := [(0, .ref (ad 0)), (1, .int (z1 + 1))]) [1, 0] rfl ?_
    have hs := sg_suc h6
    have hs8 := sg_inN h6
    refine g_widen (6 * (z1 + 1).toNatClampNeg) (200 * (6 * (z1 + 1).toNatClampNeg)) (by omega) (by omega) ?_
    exact hκ10 (z1 + 1) σ25 (a26) (by omega) hF
  have K10 : ∀ (nz : Nat), ∀ (z1 : Int32) (σz : sg_S) (qz : Nat) (hz : z1.toNatClampNeg ≤ 8), f_X7_writeCredits_L10 nz z1 σz = some (r, σ') → sg_G p l e ({ frames := 6, cells := 54, slots := 10800, locals := 135 } : Room) s m args below meth c D (va_A (ww_X7TNI Y ad σ) s.heap.size) 2 (6 * z1.toNatClampNeg) (200 * (6 * z1.toNatClampNeg)) Q 10 [(0, .ref (ad 0)), (1, .int z1)] [] (ww_X7TNI Y (sg_ua ad 178 qz) σz) := by
    intro nz
    induction nz with
    | zero =>
      intro z1 σz qz hz hF
      rw [f_X7_writeCredits_L10.eq_1] at hF
      exact nomatch hF
    | succ nz ih =>
      intro z1 σz qz hz hF
      rw [f_X7_writeCredits_L10.eq_2] at hF
      refine g_iload_n 11 C dX7_writeCredits_10 rfl rfl rfl ?_
      refine g_aload_n 12 C dX7_writeCredits_11 rfl rfl rfl ?_
      refine g_get 15 C (own := RX7) (C1 := RX7) (T := TX7) 0 0 (.ref ((sg_ua ad 178 qz) 1)) kiX7_writeCredits_X7 kfX7_writeCredits_10 rfl dX7_writeCredits_12 rfl rfl rfl (by decide) rfl ?_
      refine g_get 18 C (own := RX7) (C1 := RX3) (T := TX3) 1 6 (.ref ((sg_ua ad 178 qz) 9)) kiX7_writeCredits_X3 kfX7_writeCredits_69 rfl dX7_writeCredits_15 rfl rfl rfl (by decide) rfl ?_
      refine g_get 21 C (own := RX7) (C1 := RX1) (T := TX1) 9 0 (.int (σz 9 0)) kiX7_writeCredits_X1 kfX7_writeCredits_151 rfl dX7_writeCredits_18 rfl rfl rfl (by decide) rfl ?_
      refine g_icmp_ge 24 114 C dX7_writeCredits_21 (by decide) rfl hF (fun hF => ?_) (fun hF => ?_)
      · refine g_aload_n 115 C dX7_writeCredits_114 rfl rfl rfl ?_
        refine g_get 118 C (own := RX7) (C1 := RX7) (T := TX7) 0 7 (.ref ((sg_ua ad 178 qz) 177)) kiX7_writeCredits_X7 kfX7_writeCredits_46 rfl dX7_writeCredits_115 rfl rfl rfl (by decide) rfl ?_
        obtain ⟨r4, q5, hF⟩ := sg_bndE hF
        refine g_callVi 121 C (w2 := (ww_X7TNI Y (sg_ua ad 178 qz) σz)) (As := []) (st := []) (n0 := 0) (ci := 1) (q0 := 14) [14, 15] [0, 1, 2, 3, 4, 5, 6, 7, 8, 9, 10, 11, 12, 13] [0, 1, 2, 3, 4, 5, 6, 7, 8, 9, 10, 11, 12, 13, 14, 15] (c_J4_length_8abf5 l hZ (ad := (sg_e1 177 (sg_ua ad 178 qz))) q5) gX7_writeCredits_J4_length_8abf5 ⟨rfl, by decide +kernel, by decide +kernel, rfl⟩ rfl ⟨Nat.le_of_ble_eq_true rfl, Nat.le_of_ble_eq_true rfl⟩ rfl rfl ⟨rfl, rfl, rfl, by decide, rfl, rfl⟩ rfl rfl (Nat.le_of_ble_eq_true rfl) ⟨by show _ ≤ 54; omega, by show _ ≤ 10800; omega⟩ dX7_writeCredits_118 rfl rfl ?_
        obtain ⟨e1, e2⟩ := sg_pairE hF
        refine g_widen 54 10800 (by omega) (by omega) ?_
        exact g_iretX (P := fun (r2 : Int32) (_ : Nat) => r2 = r) (w' := fun q => (ww_X7TNI Y (sg_ua ad 178 q) σ')) (qz) C hr rfl hQ hsz dX7_writeCredits_121 e1.symm (by subst e2; rfl)
      · refine g_iload_n 25 C dX7_writeCredits_24 rfl rfl rfl ?_
        refine g_if_le 28 38 C dX7_writeCredits_25 (by decide) rfl hF (fun hF => ?_) (fun hF => ?_)
        · refine g_lv (lv2 := [(0, .ref (ad 0)), (1, .int z1)]) [0, 1] rfl ?_
          refine g_widen (6 * z1.toNatClampNeg + 1) (200 * (6 * z1.toNatClampNeg + 1)) (by omega) (by omega) ?_
          exact K38 (fun z1' σz' => f_X7_writeCredits_L10 nz z1' σz') ih z1 σz (qz) hz hF
        · refine g_aload_n 29 C dX7_writeCredits_28 rfl rfl rfl ?_
          refine g_get 32 C (own := RX7) (C1 := RX7) (T := TX7) 0 7 (.ref ((sg_ua ad 178 qz) 177)) kiX7_writeCredits_X7 kfX7_writeCredits_46 rfl dX7_writeCredits_29 rfl rfl rfl (by decide) rfl ?_
          refine g_bipush 34 C 32 dX7_writeCredits_32 rfl (by decide) ?_
          obtain ⟨τ27, q28, hF⟩ := sg_bndE hF
          obtain ⟨σ29, eσ29, hF⟩ := sg_letE hF
          refine g_XVr 37 C (w2 := fun q => (ww_X7TNI Y (sg_ua ad 178 q) σ29)) (As := [.int 32]) (st := []) (n0 := 1) (C2 := RJ4) (ci := 1) (q0 := 14) (c_J4_append_cf468 l hZ hJ (ad := (sg_e1 177 (sg_ua ad 178 qz))) q28) gX7_writeCredits_J4_append_cf468 ⟨rfl, by decide +kernel, by decide +kernel, rfl⟩ rfl ⟨Nat.le_of_ble_eq_true rfl, Nat.le_of_ble_eq_true rfl⟩ rfl rfl (by subst eσ29; exact sg_cutMidX 14 2 rfl (fun _ => rfl)) rfl (Nat.le_of_ble_eq_true rfl) ⟨by show _ ≤ 54; omega, by show _ ≤ 10800; omega⟩ dX7_writeCredits_34 rfl rfl (fun a30 _ => ?_)
          refine g_pop 38 C dX7_writeCredits_37 rfl rfl ?_
          refine g_lv (lv2 := [(0, .ref (ad 0)), (1, .int z1)]) [0, 1] rfl ?_
          refine g_widen (6 * z1.toNatClampNeg + 1) (200 * (6 * z1.toNatClampNeg + 1)) (by omega) (by omega) ?_
          exact K38 (fun z1' σz' => f_X7_writeCredits_L10 nz z1' σz') ih z1 σ29 (a30) hz hF
  rw [f_X7_writeCredits] at hF
  refine g_aload_n 1 C dX7_writeCredits_0 rfl rfl rfl ?_
  refine g_get 4 C (own := RX7) (C1 := RX7) (T := TX7) 0 7 (.ref (ad 177)) kiX7_writeCredits_X7 kfX7_writeCredits_46 rfl dX7_writeCredits_1 rfl rfl rfl (by decide) rfl ?_
  refine g_iconst 5 C 0 dX7_writeCredits_4 rfl (by decide) ?_
  obtain ⟨τ1, q2, hF⟩ := sg_bndE hF
  obtain ⟨σ3, eσ3, hF⟩ := sg_letE hF
  refine g_callVv 8 C (w2 := (ww_X7TNI Y ad σ3)) (As := [.int 0]) (st := []) (n0 := 1) (ci := 1) (q0 := 14) [14, 15] [0, 1, 2, 3, 4, 5, 6, 7, 8, 9, 10, 11, 12, 13] [0, 1, 2, 3, 4, 5, 6, 7, 8, 9, 10, 11, 12, 13, 14, 15] (c_J4_setLength_d00df l hZ hJ (ad := (sg_e1 177 ad)) q2) gX7_writeCredits_J4_setLength_d00df ⟨rfl, by decide +kernel, by decide +kernel, rfl⟩ rfl ⟨Nat.le_of_ble_eq_true rfl, Nat.le_of_ble_eq_true rfl⟩ rfl rfl (by subst eσ3; exact ⟨rfl, rfl, rfl, by decide, rfl, rfl⟩) rfl rfl (Nat.le_of_ble_eq_true rfl) ⟨by show _ ≤ 54; omega, by show _ ≤ 10800; omega⟩ dX7_writeCredits_5 rfl rfl ?_
  refine g_iconst 9 C 0 dX7_writeCredits_8 rfl (by decide) ?_
  refine g_istore_n 10 C [(1, .int 0), (0, .ref (ad 0))] dX7_writeCredits_9 rfl rfl (by decide) rfl ?_
  refine g_lv (lv2 := [(0, .ref (ad 0)), (1, .int 0)]) [1, 0] rfl ?_
  refine g_widen (6 * (0 : Int32).toNatClampNeg) (200 * (6 * (0 : Int32).toNatClampNeg)) (by omega) (by omega) ?_
  exact K10  1000 0 σ3 (ad 178) (by decide) hF
