/-! CONSTRUCTORS of the ministry and the reference -/
theorem sg_eqTr {w w2 w3 : va_W} (h : sg_eqw w w2) (h2 : sg_eqw w2 w3) : sg_eqw w w3 := ⟨fun D cl H => (h.1 D cl H).trans (h2.1 D cl H), h.2.trans h2.2⟩
theorem sg_eqL {w w2 v : va_W} (h : sg_eqw w w2) : sg_eqw (w ++ v) (w2 ++ v) := by
  refine ⟨fun D cl H => ?_, by rw [List.map_append, List.map_append, h.2]⟩
  have k : ∀ a : va_W, va_P D cl (a ++ v) H ↔ va_P D cl a H ∧ va_P D cl v H := by
    intro a
    induction a with
    | nil =>
      constructor
      · intro q
        exact ⟨(fun i x hx => by cases hx), q⟩
      · intro q
        exact q.2
    | cons x r ih =>
      rw [List.cons_append, sg_Pcons, sg_Pcons, ih, and_assoc]
  rw [k w, k w2, h.1 D cl H]
theorem sg_eqR {w v v2 : va_W} (h : sg_eqw v v2) : sg_eqw (w ++ v) (w ++ v2) := by
  induction w with
  | nil => exact h
  | cons x r ih => exact sg_eqCons ih
theorem sg_eqApp {w w2 v v2 : va_W} (h : sg_eqw w w2) (h2 : sg_eqw v v2) : sg_eqw (w ++ v) (w2 ++ v2) := sg_eqTr (sg_eqL h) (sg_eqR h2)
def ids_7 : List Nat := [0, 1, 2, 3, 4, 5, 6, 7, 8, 9, 10, 11, 12, 13, 14, 15, 16, 17, 18, 19]
/-- the ministry's whole world -/
def ww_7 (Y : Nat → ClassId) (ad : Nat → Nat) (σ : sg_S) : va_W := ids_7.flatMap (bk_7 Y ad σ)
def iX7 : sg_S := fun p => cond (Nat.ble p 0) (upd iz 9 (-3)) (cond (Nat.ble p 13) (iX3 (p - 1)) (cond (Nat.ble p 14) iz (cond (Nat.ble p 27) (iX3 (p - 15)) (cond (Nat.ble p 40) (iX3 (p - 28)) (cond (Nat.ble p 53) (iX3 (p - 41)) (cond (Nat.ble p 159) (iX2 (p - 54)) (cond (Nat.ble p 176) (iX5 (p - 160)) (iJ4 (p - 177)))))))))
theorem kiX7_init_ol : Cond.methodLink RX7 1 Lib.objectInit ∈ wsX7_init := by decide +kernel
theorem kiX7_init_oi : Cond.instanceMethod Lib.objectInit ∈ wsX7_init := by decide +kernel
theorem kiX7_init_oc : Cond.code Lib.objectInit ⟨#[0xb1]⟩ 1 none ∈ wsX7_init := by decide +kernel
theorem kiX7_init_wX3 : ∀ w ∈ u_ws RX3 TX3 8, w ∈ wsX7_init := by decide +kernel
theorem kiX7_init_cl7 : Cond.classLink RX7 7 RX3 ∈ wsX7_init := by decide +kernel
theorem kiX7_init_inX3 : Cond.instantiable RX3 8 ∈ wsX7_init := by decide +kernel
theorem kiX7_init_itX3 : Cond.initialized RX3 ∈ wsX7_init := by decide +kernel
theorem kiX7_init_imX3 : Cond.instanceMethod yX3_init ∈ wsX7_init := by decide +kernel
theorem kiX7_init_ml9 : Cond.methodLink RX7 9 yX3_init ∈ wsX7_init := by decide +kernel
theorem kiX7_init_wX7 : ∀ w ∈ u_ws RX7 TX7 10, w ∈ wsX7_init := by decide +kernel
theorem kiX7_init_f10 : Cond.fieldLink RX7 10 "WeatherMinistry" "now" "LWeatherMinistry$Realm;" ∈ wsX7_init := by decide +kernel
theorem kiX7_init_f16 : Cond.fieldLink RX7 16 "WeatherMinistry" "before" "LWeatherMinistry$Realm;" ∈ wsX7_init := by decide +kernel
theorem kiX7_init_f19 : Cond.fieldLink RX7 19 "WeatherMinistry" "trial" "LWeatherMinistry$Realm;" ∈ wsX7_init := by decide +kernel
theorem kiX7_init_f22 : Cond.fieldLink RX7 22 "WeatherMinistry" "saved" "LWeatherMinistry$Realm;" ∈ wsX7_init := by decide +kernel
theorem kiX7_init_f25 : Cond.fieldLink RX7 25 "WeatherMinistry" "isSaved" "Z" ∈ wsX7_init := by decide +kernel
theorem kiX7_init_wX2 : ∀ w ∈ u_ws RX2 TX2 3, w ∈ wsX7_init := by decide +kernel
theorem kiX7_init_cl29 : Cond.classLink RX7 29 RX2 ∈ wsX7_init := by decide +kernel
theorem kiX7_init_inX2 : Cond.instantiable RX2 3 ∈ wsX7_init := by decide +kernel
theorem kiX7_init_itX2 : Cond.initialized RX2 ∈ wsX7_init := by decide +kernel
theorem kiX7_init_imX2 : Cond.instanceMethod yX2_init ∈ wsX7_init := by decide +kernel
theorem kiX7_init_ml31 : Cond.methodLink RX7 31 yX2_init ∈ wsX7_init := by decide +kernel
theorem kiX7_init_f32 : Cond.fieldLink RX7 32 "WeatherMinistry" "history" "LWeatherMinistry$History;" ∈ wsX7_init := by decide +kernel
theorem kiX7_init_wX5 : ∀ w ∈ u_ws RX5 TX5 5, w ∈ wsX7_init := by decide +kernel
theorem kiX7_init_cl36 : Cond.classLink RX7 36 RX5 ∈ wsX7_init := by decide +kernel
theorem kiX7_init_inX5 : Cond.instantiable RX5 5 ∈ wsX7_init := by decide +kernel
theorem kiX7_init_itX5 : Cond.initialized RX5 ∈ wsX7_init := by decide +kernel
theorem kiX7_init_imX5 : Cond.instanceMethod yX5_init ∈ wsX7_init := by decide +kernel
theorem kiX7_init_f39 : Cond.fieldLink RX7 39 "WeatherMinistry" "text" "LWeatherMinistry$Text;" ∈ wsX7_init := by decide +kernel
theorem kiX7_init_wJ4 : ∀ w ∈ u_ws RJ4 TJ4 4, w ∈ wsX7_init := by decide +kernel
theorem kiX7_init_cl43 : Cond.classLink RX7 43 RJ4 ∈ wsX7_init := by decide +kernel
theorem kiX7_init_inJ4 : Cond.instantiable RJ4 4 ∈ wsX7_init := by decide +kernel
theorem kiX7_init_itJ4 : Cond.initialized RJ4 ∈ wsX7_init := by decide +kernel
theorem kiX7_init_imJ4 : Cond.instanceMethod yJ4_init_da8c8 ∈ wsX7_init := by decide +kernel
theorem kiX7_init_ml45 : Cond.methodLink RX7 45 yJ4_init_da8c8 ∈ wsX7_init := by decide +kernel
theorem kiX7_init_f46 : Cond.fieldLink RX7 46 "WeatherMinistry" "line" "Ljava/lang/StringBuilder;" ∈ wsX7_init := by decide +kernel
theorem kiX7_init_wX4 : ∀ w ∈ u_ws RX4 TX4 4, w ∈ wsX7_init := by decide +kernel
theorem kiX7_init_cl50 : Cond.classLink RX7 50 RX4 ∈ wsX7_init := by decide +kernel
theorem kiX7_init_inX4 : Cond.instantiable RX4 4 ∈ wsX7_init := by decide +kernel
theorem kiX7_init_itX4 : Cond.initialized RX4 ∈ wsX7_init := by decide +kernel
theorem kiX7_init_imX4 : Cond.instanceMethod yX4_init ∈ wsX7_init := by decide +kernel
theorem kiX7_init_f53 : Cond.fieldLink RX7 53 "WeatherMinistry" "latest" "LWeatherMinistry$Reason;" ∈ wsX7_init := by decide +kernel
theorem kiX7_init_f57 : Cond.fieldLink RX7 57 "WeatherMinistry" "faultPosition" "I" ∈ wsX7_init := by decide +kernel
set_option maxHeartbeats 8000000 in
set_option maxRecDepth 100000 in
theorem c_X7_init (l : Launch) {D : va_G} {Y : Nat → ClassId} {Z : (Nat → Prop) → State → Heap → Prop} (hZ : sg_Zok Z) (hZN : sg_ZN Z) {jK jV jT : Nat → Nat} (hJ : sg_ZJ Z jK jV jT) {h0 : Nat} : sg_XV l yX7_init wsX7_init 4 74 178 1032 D Y Z [.ref h0] [(h0, .inr (9, [.null, .null, .null, .null, .int 0, .null, .null, .null, .null, .int 0]))] (fun u : Nat → Nat => u 0 = h0) (fun u => ww_7 Y u iX7) := by
  intro sz
  refine sg_enterX (own := RX7) (maxL := 1) (ret := none) (cc := cX7_init) (by decide +kernel) rfl rfl (Nat.le_of_ble_eq_true rfl) hZ ?_
  intro p e s m args below meth c C hr hnm Q hQ hsz
  have hnm : meth.name = "<init>" := hnm
  refine g_lv (lv2 := [(0, .ref h0)]) [0] rfl ?_
  refine g_aload_n 1 C dX7_init_0 rfl rfl rfl ?_
  refine g_objInit 4 C kiX7_init_ol kiX7_init_oi kiX7_init_oc (Nat.le_of_ble_eq_true rfl) (Nat.le_of_ble_eq_true rfl) dX7_init_1 rfl ?_
  refine g_aload_n 5 C dX7_init_4 rfl rfl rfl ?_
  refine g_new 8 C (C1 := RX3) (T := TX3) (N := 8) (ci := 5) [.int 0, .null, .null, .null, .null, .null, .null, .null] tyX3 tyX3_ok kiX7_init_wX3 kiX7_init_cl7 kiX7_init_inX3 kiX7_init_itX3 rfl (by decide +kernel) (Nat.le_of_ble_eq_true rfl) (Nat.le_of_ble_eq_true rfl) dX7_init_5 rfl (fun q1 => ?_)
  refine g_dup 9 C dX7_init_8 rfl rfl ?_
  refine g_XIv 12 C (ret := none) (As := []) (n0 := 0) (st := [.ref q1, .ref h0]) (c_X3_init l hZ hZN (h0 := q1)) gX7_init_X3_init kiX7_init_itX3 kiX7_init_ml9 kiX7_init_imX3 rfl ⟨by decide, by decide, by decide +kernel⟩ rfl ⟨(Nat.le_of_ble_eq_true rfl), (Nat.le_of_ble_eq_true rfl)⟩ sg_cutEnd rfl (Nat.le_of_ble_eq_true rfl) ⟨(Nat.le_of_ble_eq_true rfl), (Nat.le_of_ble_eq_true rfl)⟩ dX7_init_9 rfl rfl (fun u1 hu1 => ?_)
  have hu1 : u1 0 = q1 := hu1
  subst hu1
  refine g_putF 15 C (own := RX7) (C1 := RX7) (T := TX7) (w2 := ([(h0, .inr (9, [.ref (u1 0), .null, .null, .null, .int 0, .null, .null, .null, .null, .int 0]))] ++ ww_X3 Y u1 iX3)) 0 0 tyX7 tyX7_ok nmX7 kiX7_init_wX7 kiX7_init_f10 rfl rfl hnm rfl (ty := (.object "WeatherMinistry$Realm")) (by decide) rfl rfl (sg_blt rfl) dX7_init_12 rfl rfl rfl (by decide) rfl ?_
  refine g_aload_n 16 C dX7_init_15 rfl rfl rfl ?_
  refine g_new 19 C (C1 := RX3) (T := TX3) (N := 8) (ci := 5) [.int 0, .null, .null, .null, .null, .null, .null, .null] tyX3 tyX3_ok kiX7_init_wX3 kiX7_init_cl7 kiX7_init_inX3 kiX7_init_itX3 rfl (by decide +kernel) (Nat.le_of_ble_eq_true rfl) (Nat.le_of_ble_eq_true rfl) dX7_init_16 rfl (fun q2 => ?_)
  refine g_dup 20 C dX7_init_19 rfl rfl ?_
  refine g_XIv 23 C (ret := none) (As := []) (n0 := 0) (st := [.ref q2, .ref h0]) (c_X3_init l hZ hZN (h0 := q2)) gX7_init_X3_init kiX7_init_itX3 kiX7_init_ml9 kiX7_init_imX3 rfl ⟨by decide, by decide, by decide +kernel⟩ rfl ⟨(Nat.le_of_ble_eq_true rfl), (Nat.le_of_ble_eq_true rfl)⟩ sg_cutEnd rfl (Nat.le_of_ble_eq_true rfl) ⟨(Nat.le_of_ble_eq_true rfl), (Nat.le_of_ble_eq_true rfl)⟩ dX7_init_20 rfl rfl (fun u2 hu2 => ?_)
  have hu2 : u2 0 = q2 := hu2
  subst hu2
  refine g_putF 26 C (own := RX7) (C1 := RX7) (T := TX7) (w2 := (([(h0, .inr (9, [.ref (u1 0), .ref (u2 0), .null, .null, .int 0, .null, .null, .null, .null, .int 0]))] ++ ww_X3 Y u1 iX3) ++ ww_X3 Y u2 iX3)) 0 1 tyX7 tyX7_ok nmX7 kiX7_init_wX7 kiX7_init_f16 rfl rfl hnm rfl (ty := (.object "WeatherMinistry$Realm")) (by decide) rfl rfl (sg_blt rfl) dX7_init_23 rfl rfl rfl (by decide) rfl ?_
  refine g_aload_n 27 C dX7_init_26 rfl rfl rfl ?_
  refine g_new 30 C (C1 := RX3) (T := TX3) (N := 8) (ci := 5) [.int 0, .null, .null, .null, .null, .null, .null, .null] tyX3 tyX3_ok kiX7_init_wX3 kiX7_init_cl7 kiX7_init_inX3 kiX7_init_itX3 rfl (by decide +kernel) (Nat.le_of_ble_eq_true rfl) (Nat.le_of_ble_eq_true rfl) dX7_init_27 rfl (fun q3 => ?_)
  refine g_dup 31 C dX7_init_30 rfl rfl ?_
  refine g_XIv 34 C (ret := none) (As := []) (n0 := 0) (st := [.ref q3, .ref h0]) (c_X3_init l hZ hZN (h0 := q3)) gX7_init_X3_init kiX7_init_itX3 kiX7_init_ml9 kiX7_init_imX3 rfl ⟨by decide, by decide, by decide +kernel⟩ rfl ⟨(Nat.le_of_ble_eq_true rfl), (Nat.le_of_ble_eq_true rfl)⟩ sg_cutEnd rfl (Nat.le_of_ble_eq_true rfl) ⟨(Nat.le_of_ble_eq_true rfl), (Nat.le_of_ble_eq_true rfl)⟩ dX7_init_31 rfl rfl (fun u3 hu3 => ?_)
  have hu3 : u3 0 = q3 := hu3
  subst hu3
  refine g_putF 37 C (own := RX7) (C1 := RX7) (T := TX7) (w2 := ((([(h0, .inr (9, [.ref (u1 0), .ref (u2 0), .ref (u3 0), .null, .int 0, .null, .null, .null, .null, .int 0]))] ++ ww_X3 Y u1 iX3) ++ ww_X3 Y u2 iX3) ++ ww_X3 Y u3 iX3)) 0 2 tyX7 tyX7_ok nmX7 kiX7_init_wX7 kiX7_init_f19 rfl rfl hnm rfl (ty := (.object "WeatherMinistry$Realm")) (by decide) rfl rfl (sg_blt rfl) dX7_init_34 rfl rfl rfl (by decide) rfl ?_
  refine g_aload_n 38 C dX7_init_37 rfl rfl rfl ?_
  refine g_new 41 C (C1 := RX3) (T := TX3) (N := 8) (ci := 5) [.int 0, .null, .null, .null, .null, .null, .null, .null] tyX3 tyX3_ok kiX7_init_wX3 kiX7_init_cl7 kiX7_init_inX3 kiX7_init_itX3 rfl (by decide +kernel) (Nat.le_of_ble_eq_true rfl) (Nat.le_of_ble_eq_true rfl) dX7_init_38 rfl (fun q4 => ?_)
  refine g_dup 42 C dX7_init_41 rfl rfl ?_
  refine g_XIv 45 C (ret := none) (As := []) (n0 := 0) (st := [.ref q4, .ref h0]) (c_X3_init l hZ hZN (h0 := q4)) gX7_init_X3_init kiX7_init_itX3 kiX7_init_ml9 kiX7_init_imX3 rfl ⟨by decide, by decide, by decide +kernel⟩ rfl ⟨(Nat.le_of_ble_eq_true rfl), (Nat.le_of_ble_eq_true rfl)⟩ sg_cutEnd rfl (Nat.le_of_ble_eq_true rfl) ⟨(Nat.le_of_ble_eq_true rfl), (Nat.le_of_ble_eq_true rfl)⟩ dX7_init_42 rfl rfl (fun u4 hu4 => ?_)
  have hu4 : u4 0 = q4 := hu4
  subst hu4
  refine g_putF 48 C (own := RX7) (C1 := RX7) (T := TX7) (w2 := (((([(h0, .inr (9, [.ref (u1 0), .ref (u2 0), .ref (u3 0), .ref (u4 0), .int 0, .null, .null, .null, .null, .int 0]))] ++ ww_X3 Y u1 iX3) ++ ww_X3 Y u2 iX3) ++ ww_X3 Y u3 iX3) ++ ww_X3 Y u4 iX3)) 0 3 tyX7 tyX7_ok nmX7 kiX7_init_wX7 kiX7_init_f22 rfl rfl hnm rfl (ty := (.object "WeatherMinistry$Realm")) (by decide) rfl rfl (sg_blt rfl) dX7_init_45 rfl rfl rfl (by decide) rfl ?_
  refine g_aload_n 49 C dX7_init_48 rfl rfl rfl ?_
  refine g_iconst 50 C 0 dX7_init_49 rfl (by decide) ?_
  refine g_put 53 C (own := RX7) (C1 := RX7) (T := TX7) (w2 := (((([(h0, .inr (9, [.ref (u1 0), .ref (u2 0), .ref (u3 0), .ref (u4 0), .int 0, .null, .null, .null, .null, .int 0]))] ++ ww_X3 Y u1 iX3) ++ ww_X3 Y u2 iX3) ++ ww_X3 Y u3 iX3) ++ ww_X3 Y u4 iX3)) 0 4 tyX7 tyX7_ok nmX7 kiX7_init_wX7 kiX7_init_f25 rfl rfl (ty := .boolean) (by decide) rfl rfl (sg_blt rfl) dX7_init_50 rfl rfl rfl (by decide) rfl ?_
  refine g_aload_n 54 C dX7_init_53 rfl rfl rfl ?_
  refine g_new 57 C (C1 := RX2) (T := TX2) (N := 3) (ci := 4) [.int 0, .int 0, .null] tyX2 tyX2_ok kiX7_init_wX2 kiX7_init_cl29 kiX7_init_inX2 kiX7_init_itX2 rfl (by decide +kernel) (Nat.le_of_ble_eq_true rfl) (Nat.le_of_ble_eq_true rfl) dX7_init_54 rfl (fun q5 => ?_)
  refine g_dup 58 C dX7_init_57 rfl rfl ?_
  refine g_XIv 61 C (ret := none) (As := []) (n0 := 0) (st := [.ref q5, .ref h0]) (c_X2_init l hZ hZN (h0 := q5)) gX7_init_X2_init kiX7_init_itX2 kiX7_init_ml31 kiX7_init_imX2 rfl ⟨by decide, by decide, by decide +kernel⟩ rfl ⟨(Nat.le_of_ble_eq_true rfl), (Nat.le_of_ble_eq_true rfl)⟩ sg_cutEnd rfl (Nat.le_of_ble_eq_true rfl) ⟨(Nat.le_of_ble_eq_true rfl), (Nat.le_of_ble_eq_true rfl)⟩ dX7_init_58 rfl rfl (fun u5 hu5 => ?_)
  have hu5 : u5 0 = q5 := hu5
  subst hu5
  refine g_putF 64 C (own := RX7) (C1 := RX7) (T := TX7) (w2 := ((((([(h0, .inr (9, [.ref (u1 0), .ref (u2 0), .ref (u3 0), .ref (u4 0), .int 0, .ref (u5 0), .null, .null, .null, .int 0]))] ++ ww_X3 Y u1 iX3) ++ ww_X3 Y u2 iX3) ++ ww_X3 Y u3 iX3) ++ ww_X3 Y u4 iX3) ++ ww_X2 Y u5 iX2)) 0 5 tyX7 tyX7_ok nmX7 kiX7_init_wX7 kiX7_init_f32 rfl rfl hnm rfl (ty := (.object "WeatherMinistry$History")) (by decide) rfl rfl (sg_blt rfl) dX7_init_61 rfl rfl rfl (by decide) rfl ?_
  refine g_aload_n 65 C dX7_init_64 rfl rfl rfl ?_
  refine g_new 68 C (C1 := RX5) (T := TX5) (N := 5) (ci := 7) [.null, .int 0, .int 0, .null, .null] tyX5 tyX5_ok kiX7_init_wX5 kiX7_init_cl36 kiX7_init_inX5 kiX7_init_itX5 rfl (by decide +kernel) (Nat.le_of_ble_eq_true rfl) (Nat.le_of_ble_eq_true rfl) dX7_init_65 rfl (fun q6 => ?_)
  refine g_dup 69 C dX7_init_68 rfl rfl ?_
  refine g_XINv 72 C (ret := none) (As := []) (n0 := 0) (st := [.ref q6, .ref h0]) (c_X5_init l hZ hZN hJ (h0 := q6)) gX7_init_X5_init_n38 (hZN _ _ _ C.2.2.2.2.2.2.2.2.1).1.2.2.2.1 kiX7_init_itX5 kiX7_init_imX5 rfl ⟨by decide, by decide, by decide +kernel⟩ rfl ⟨(Nat.le_of_ble_eq_true rfl), (Nat.le_of_ble_eq_true rfl)⟩ sg_cutEnd rfl (Nat.le_of_ble_eq_true rfl) ⟨(Nat.le_of_ble_eq_true rfl), (Nat.le_of_ble_eq_true rfl)⟩ dX7_init_69 rfl rfl (fun u6 hu6 => ?_)
  have hu6 : u6 0 = q6 := hu6
  subst hu6
  refine g_putF 75 C (own := RX7) (C1 := RX7) (T := TX7) (w2 := (((((([(h0, .inr (9, [.ref (u1 0), .ref (u2 0), .ref (u3 0), .ref (u4 0), .int 0, .ref (u5 0), .ref (u6 0), .null, .null, .int 0]))] ++ ww_X3 Y u1 iX3) ++ ww_X3 Y u2 iX3) ++ ww_X3 Y u3 iX3) ++ ww_X3 Y u4 iX3) ++ ww_X2 Y u5 iX2) ++ ww_X5 Y u6 iX5)) 0 6 tyX7 tyX7_ok nmX7 kiX7_init_wX7 kiX7_init_f39 rfl rfl hnm rfl (ty := (.object "WeatherMinistry$Text")) (by decide) rfl rfl (sg_blt rfl) dX7_init_72 rfl rfl rfl (by decide) rfl ?_
  refine g_aload_n 76 C dX7_init_75 rfl rfl rfl ?_
  refine g_new 79 C (C1 := RJ4) (T := TJ4) (N := 4) (ci := 1) [.null, .int 0, .int 0, .int 0] tyJ4 tyJ4_ok kiX7_init_wJ4 kiX7_init_cl43 kiX7_init_inJ4 kiX7_init_itJ4 rfl (by decide +kernel) (Nat.le_of_ble_eq_true rfl) (Nat.le_of_ble_eq_true rfl) dX7_init_76 rfl (fun q7 => ?_)
  refine g_dup 80 C dX7_init_79 rfl rfl ?_
  refine g_XIv 83 C (ret := none) (As := []) (n0 := 0) (st := [.ref q7, .ref h0]) (c_J4_init l hZ hJ (h0 := q7)) gX7_init_J4_init_da8c8 kiX7_init_itJ4 kiX7_init_ml45 kiX7_init_imJ4 rfl ⟨by decide, by decide, by decide +kernel⟩ rfl ⟨(Nat.le_of_ble_eq_true rfl), (Nat.le_of_ble_eq_true rfl)⟩ sg_cutEnd rfl (Nat.le_of_ble_eq_true rfl) ⟨(Nat.le_of_ble_eq_true rfl), (Nat.le_of_ble_eq_true rfl)⟩ dX7_init_80 rfl rfl (fun u7 hu7 => ?_)
  have hu7 : u7 0 = q7 := hu7
  subst hu7
  refine g_putF 86 C (own := RX7) (C1 := RX7) (T := TX7) (w2 := ((((((([(h0, .inr (9, [.ref (u1 0), .ref (u2 0), .ref (u3 0), .ref (u4 0), .int 0, .ref (u5 0), .ref (u6 0), .ref (u7 0), .null, .int 0]))] ++ ww_X3 Y u1 iX3) ++ ww_X3 Y u2 iX3) ++ ww_X3 Y u3 iX3) ++ ww_X3 Y u4 iX3) ++ ww_X2 Y u5 iX2) ++ ww_X5 Y u6 iX5) ++ ww_J4 Y u7 iJ4)) 0 7 tyX7 tyX7_ok nmX7 kiX7_init_wX7 kiX7_init_f46 rfl rfl hnm rfl (ty := (.object "java/lang/StringBuilder")) (by decide) rfl rfl (sg_blt rfl) dX7_init_83 rfl rfl rfl (by decide) rfl ?_
  refine g_aload_n 87 C dX7_init_86 rfl rfl rfl ?_
  refine g_new 90 C (C1 := RX4) (T := TX4) (N := 4) (ci := 6) [.int 0, .int 0, .int 0, .int 0] tyX4 tyX4_ok kiX7_init_wX4 kiX7_init_cl50 kiX7_init_inX4 kiX7_init_itX4 rfl (by decide +kernel) (Nat.le_of_ble_eq_true rfl) (Nat.le_of_ble_eq_true rfl) dX7_init_87 rfl (fun q8 => ?_)
  refine g_dup 91 C dX7_init_90 rfl rfl ?_
  refine g_XINv 94 C (ret := none) (As := []) (n0 := 0) (st := [.ref q8, .ref h0]) (c_X4_init l hZ (h0 := q8)) gX7_init_X4_init_n52 (hZN _ _ _ C.2.2.2.2.2.2.2.2.1).1.2.2.2.2 kiX7_init_itX4 kiX7_init_imX4 rfl ⟨by decide, by decide, by decide +kernel⟩ rfl ⟨(Nat.le_of_ble_eq_true rfl), (Nat.le_of_ble_eq_true rfl)⟩ sg_cutEnd rfl (Nat.le_of_ble_eq_true rfl) ⟨(Nat.le_of_ble_eq_true rfl), (Nat.le_of_ble_eq_true rfl)⟩ dX7_init_91 rfl rfl (fun u8 hu8 => ?_)
  have hu8 : u8 0 = q8 := hu8
  subst hu8
  refine g_putF 97 C (own := RX7) (C1 := RX7) (T := TX7) (w2 := (((((((([(h0, .inr (9, [.ref (u1 0), .ref (u2 0), .ref (u3 0), .ref (u4 0), .int 0, .ref (u5 0), .ref (u6 0), .ref (u7 0), .ref (u8 0), .int 0]))] ++ ww_X3 Y u1 iX3) ++ ww_X3 Y u2 iX3) ++ ww_X3 Y u3 iX3) ++ ww_X3 Y u4 iX3) ++ ww_X2 Y u5 iX2) ++ ww_X5 Y u6 iX5) ++ ww_J4 Y u7 iJ4) ++ ww_X4 Y u8 iX4)) 0 8 tyX7 tyX7_ok nmX7 kiX7_init_wX7 kiX7_init_f53 rfl rfl hnm rfl (ty := (.object "WeatherMinistry$Reason")) (by decide) rfl rfl (sg_blt rfl) dX7_init_94 rfl rfl rfl (by decide) rfl ?_
  refine g_aload_n 98 C dX7_init_97 rfl rfl rfl ?_
  refine g_bipush 100 C (-3) dX7_init_98 rfl (by decide) ?_
  refine g_put 103 C (own := RX7) (C1 := RX7) (T := TX7) (w2 := (((((((([(h0, .inr (9, [.ref (u1 0), .ref (u2 0), .ref (u3 0), .ref (u4 0), .int 0, .ref (u5 0), .ref (u6 0), .ref (u7 0), .ref (u8 0), .int (-3)]))] ++ ww_X3 Y u1 iX3) ++ ww_X3 Y u2 iX3) ++ ww_X3 Y u3 iX3) ++ ww_X3 Y u4 iX3) ++ ww_X2 Y u5 iX2) ++ ww_X5 Y u6 iX5) ++ ww_J4 Y u7 iJ4) ++ ww_X4 Y u8 iX4)) 0 9 tyX7 tyX7_ok nmX7 kiX7_init_wX7 kiX7_init_f57 rfl rfl (ty := .int) (by decide) rfl rfl (sg_blt rfl) dX7_init_100 rfl rfl rfl (by decide) rfl ?_
  refine g_widen 178 1032 (Nat.le_of_ble_eq_true rfl) (Nat.le_of_ble_eq_true rfl) ?_
  obtain ⟨u, hu⟩ : ∃ u : Nat → Nat, u = fun k => cond (Nat.ble k 0) h0 (cond (Nat.ble k 13) (u1 (k - 1)) (cond (Nat.ble k 14) (u8 0) (cond (Nat.ble k 27) (u2 (k - 15)) (cond (Nat.ble k 40) (u3 (k - 28)) (cond (Nat.ble k 53) (u4 (k - 41)) (cond (Nat.ble k 159) (u5 (k - 54)) (cond (Nat.ble k 176) (u6 (k - 160)) (u7 (k - 177))))))))) := ⟨_, rfl⟩
  have eH : sg_eqw (ww_X2 Y u5 iX2) (bk_7 Y u iX7 6 ++ (bk_7 Y u iX7 7 ++ (bk_7 Y u iX7 8 ++ (bk_7 Y u iX7 9 ++ (bk_7 Y u iX7 10 ++ (bk_7 Y u iX7 11 ++ (bk_7 Y u iX7 12 ++ (bk_7 Y u iX7 13 ++ (bk_7 Y u iX7 14 ++ (bk_7 Y u iX7 15)))))))))) := by subst hu; exact sg_eqCons (sg_eqRow (fun i hi => by rcases sg_lt8 hi with rfl | rfl | rfl | rfl | rfl | rfl | rfl | rfl <;> rfl))
  have eT : sg_eqw (ww_X5 Y u6 iX5) (bk_7 Y u iX7 16 ++ (bk_7 Y u iX7 17 ++ bk_7 Y u iX7 18)) := by subst hu; exact sg_eqCons (sg_eqCons (sg_eqCons (sg_eqCons (sg_eqRow (fun i hi => by rcases (show i = 0 ∨ i = 1 ∨ i = 2 ∨ i = 3 ∨ i = 4 ∨ i = 5 ∨ i = 6 ∨ i = 7 ∨ i = 8 ∨ i = 9 ∨ i = 10 ∨ i = 11 by omega) with rfl | rfl | rfl | rfl | rfl | rfl | rfl | rfl | rfl | rfl | rfl | rfl <;> rfl)))))
  have hp : (((((((((bk_7 Y u iX7 0 ++ (bk_7 Y u iX7 1)) ++ (bk_7 Y u iX7 3)) ++ (bk_7 Y u iX7 4)) ++ (bk_7 Y u iX7 5)) ++ (bk_7 Y u iX7 6 ++ (bk_7 Y u iX7 7 ++ (bk_7 Y u iX7 8 ++ (bk_7 Y u iX7 9 ++ (bk_7 Y u iX7 10 ++ (bk_7 Y u iX7 11 ++ (bk_7 Y u iX7 12 ++ (bk_7 Y u iX7 13 ++ (bk_7 Y u iX7 14 ++ (bk_7 Y u iX7 15))))))))))) ++ (bk_7 Y u iX7 16 ++ (bk_7 Y u iX7 17 ++ bk_7 Y u iX7 18))) ++ (bk_7 Y u iX7 19)) ++ (bk_7 Y u iX7 2))).Perm (ww_7 Y u iX7) := (List.Perm.of_eq (rfl : (((((((((bk_7 Y u iX7 0 ++ (bk_7 Y u iX7 1)) ++ (bk_7 Y u iX7 3)) ++ (bk_7 Y u iX7 4)) ++ (bk_7 Y u iX7 5)) ++ (bk_7 Y u iX7 6 ++ (bk_7 Y u iX7 7 ++ (bk_7 Y u iX7 8 ++ (bk_7 Y u iX7 9 ++ (bk_7 Y u iX7 10 ++ (bk_7 Y u iX7 11 ++ (bk_7 Y u iX7 12 ++ (bk_7 Y u iX7 13 ++ (bk_7 Y u iX7 14 ++ (bk_7 Y u iX7 15))))))))))) ++ (bk_7 Y u iX7 16 ++ (bk_7 Y u iX7 17 ++ bk_7 Y u iX7 18))) ++ (bk_7 Y u iX7 19)) ++ (bk_7 Y u iX7 2))) = [0, 1, 3, 4, 5, 6, 7, 8, 9, 10, 11, 12, 13, 14, 15, 16, 17, 18, 19, 2].flatMap (bk_7 Y u iX7))).trans (List.Perm.flatMap_right (bk_7 Y u iX7) (by decide : [0, 1, 3, 4, 5, 6, 7, 8, 9, 10, 11, 12, 13, 14, 15, 16, 17, 18, 19, 2].Perm ids_7))
  refine g_eqw (w2 := ((((((((bk_7 Y u iX7 0 ++ (bk_7 Y u iX7 1)) ++ (bk_7 Y u iX7 3)) ++ (bk_7 Y u iX7 4)) ++ (bk_7 Y u iX7 5)) ++ (bk_7 Y u iX7 6 ++ (bk_7 Y u iX7 7 ++ (bk_7 Y u iX7 8 ++ (bk_7 Y u iX7 9 ++ (bk_7 Y u iX7 10 ++ (bk_7 Y u iX7 11 ++ (bk_7 Y u iX7 12 ++ (bk_7 Y u iX7 13 ++ (bk_7 Y u iX7 14 ++ (bk_7 Y u iX7 15))))))))))) ++ (bk_7 Y u iX7 16 ++ (bk_7 Y u iX7 17 ++ bk_7 Y u iX7 18))) ++ (bk_7 Y u iX7 19)) ++ (bk_7 Y u iX7 2))) (sg_eqApp (sg_eqApp (sg_eqApp (sg_eqApp (by subst hu; exact sg_eqRefl _) eH) eT) (by subst hu; exact sg_eqRefl _)) (by subst hu; exact sg_eqRefl _)) ?_
  refine g_perm hp ?_
  exact g_vretX u C hr hQ hsz dX7_init_103 (by rw [hu]; rfl) rfl
