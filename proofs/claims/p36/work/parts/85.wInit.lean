/-! CONSTRUCTORS: their contracts -/
theorem sg_cutEnd {S : Type} {wr wc : va_W} {w1 : S → va_W} : ∃ wr2 : va_W, (wr ++ wc).Perm (wc ++ wr2) ∧ ∀ u : S, (wr2 ++ w1 u).Perm (wr ++ w1 u) := ⟨wr, List.perm_append_comm, fun _ => List.Perm.refl _⟩
theorem sg_cutAllX {S : Type} {wc : va_W} {w1 : S → va_W} : ∃ wr2 : va_W, wc.Perm (wc ++ wr2) ∧ ∀ u : S, (wr2 ++ w1 u).Perm (w1 u) := ⟨[], by rw [List.append_nil], fun u => by rw [List.nil_append]⟩
/-- the states that constructors leave -/
def iz : Nat → Int32 := fun _ => 0
def iX3sun : Nat → Int32 := upd (upd (upd (upd (upd iz 0 10) 1 10) 2 10) 3 10) 4 10
def iX3umb : Nat → Int32 := upd (upd (upd (upd (upd iz 0 2) 1 2) 2 2) 3 2) 4 2
def iX0 : sg_S := fun _ => iz
def iX1 : sg_S := fun _ => iz
def iX6 : sg_S := fun _ => iz
def iX4 : sg_S := fun _ => iz
def iX3 : sg_S := fun p => match p with
  | 1 => iX3sun
  | 3 => iX3umb
  | _ => iz
def iJ4 : sg_S := fun p => match p with
  | 0 => upd iz 0 16
  | _ => iz
def iX2 : sg_S := fun p => cond (Nat.ble p 1) iz (iX3 ((p - 2) % 13))
def iX5 : sg_S := fun p => cond (Nat.beq p 1) (iJ4 0) iz
theorem kiX0_init_ol : Cond.methodLink RX0 3 Lib.objectInit ∈ wsX0_init := by decide +kernel
theorem kiX0_init_oi : Cond.instanceMethod Lib.objectInit ∈ wsX0_init := by decide +kernel
theorem kiX0_init_oc : Cond.code Lib.objectInit ⟨#[0xb1]⟩ 1 none ∈ wsX0_init := by decide +kernel
theorem kiX0_init_wX0 : ∀ w ∈ u_ws RX0 TX0 8, w ∈ wsX0_init := by decide +kernel
theorem kiX0_init_f9 : Cond.fieldLink RX0 9 "WeatherMinistry$Books" "got" "I" ∈ wsX0_init := by decide +kernel
theorem kiX0_init_f15 : Cond.fieldLink RX0 15 "WeatherMinistry$Books" "paid" "I" ∈ wsX0_init := by decide +kernel
theorem kiX0_init_f18 : Cond.fieldLink RX0 18 "WeatherMinistry$Books" "spent" "I" ∈ wsX0_init := by decide +kernel
theorem kiX0_init_f21 : Cond.fieldLink RX0 21 "WeatherMinistry$Books" "taken" "I" ∈ wsX0_init := by decide +kernel
theorem kiX0_init_f24 : Cond.fieldLink RX0 24 "WeatherMinistry$Books" "broken" "I" ∈ wsX0_init := by decide +kernel
theorem kiX0_init_f27 : Cond.fieldLink RX0 27 "WeatherMinistry$Books" "rainedBack" "I" ∈ wsX0_init := by decide +kernel
theorem kiX0_init_f30 : Cond.fieldLink RX0 30 "WeatherMinistry$Books" "ended" "I" ∈ wsX0_init := by decide +kernel
theorem kiX0_init_f33 : Cond.fieldLink RX0 33 "WeatherMinistry$Books" "endedInFull" "I" ∈ wsX0_init := by decide +kernel
theorem kiX1_init_ol : Cond.methodLink RX1 3 Lib.objectInit ∈ wsX1_init := by decide +kernel
theorem kiX1_init_oi : Cond.instanceMethod Lib.objectInit ∈ wsX1_init := by decide +kernel
theorem kiX1_init_oc : Cond.code Lib.objectInit ⟨#[0xb1]⟩ 1 none ∈ wsX1_init := by decide +kernel
theorem kiX1_init_wX1 : ∀ w ∈ u_ws RX1 TX1 4, w ∈ wsX1_init := by decide +kernel
theorem kiX1_init_f9 : Cond.fieldLink RX1 9 "WeatherMinistry$Credits" "count" "I" ∈ wsX1_init := by decide +kernel
theorem kiX1_init_ai : Cond.arrayClass .int ∈ wsX1_init := by decide +kernel
theorem kiX1_init_f15 : Cond.fieldLink RX1 15 "WeatherMinistry$Credits" "towns" "[I" ∈ wsX1_init := by decide +kernel
theorem kiX1_init_f19 : Cond.fieldLink RX1 19 "WeatherMinistry$Credits" "hours" "[I" ∈ wsX1_init := by decide +kernel
theorem kiX1_init_f22 : Cond.fieldLink RX1 22 "WeatherMinistry$Credits" "ends" "[I" ∈ wsX1_init := by decide +kernel
theorem kiX6_init_ol : Cond.methodLink RX6 3 Lib.objectInit ∈ wsX6_init := by decide +kernel
theorem kiX6_init_oi : Cond.instanceMethod Lib.objectInit ∈ wsX6_init := by decide +kernel
theorem kiX6_init_oc : Cond.code Lib.objectInit ⟨#[0xb1]⟩ 1 none ∈ wsX6_init := by decide +kernel
theorem kiX6_init_ai : Cond.arrayClass .int ∈ wsX6_init := by decide +kernel
theorem kiX6_init_wX6 : ∀ w ∈ u_ws RX6 TX6 2, w ∈ wsX6_init := by decide +kernel
theorem kiX6_init_f9 : Cond.fieldLink RX6 9 "WeatherMinistry$Treaties" "partners" "[I" ∈ wsX6_init := by decide +kernel
theorem kiX6_init_f15 : Cond.fieldLink RX6 15 "WeatherMinistry$Treaties" "drizzled" "[I" ∈ wsX6_init := by decide +kernel
theorem kiX4_init_ol : Cond.methodLink RX4 3 Lib.objectInit ∈ wsX4_init := by decide +kernel
theorem kiX4_init_oi : Cond.instanceMethod Lib.objectInit ∈ wsX4_init := by decide +kernel
theorem kiX4_init_oc : Cond.code Lib.objectInit ⟨#[0xb1]⟩ 1 none ∈ wsX4_init := by decide +kernel
theorem kiX4_init_wX4 : ∀ w ∈ u_ws RX4 TX4 4, w ∈ wsX4_init := by decide +kernel
theorem kiX4_init_f9 : Cond.fieldLink RX4 9 "WeatherMinistry$Reason" "number" "I" ∈ wsX4_init := by decide +kernel
theorem kiX4_init_f15 : Cond.fieldLink RX4 15 "WeatherMinistry$Reason" "detail" "I" ∈ wsX4_init := by decide +kernel
theorem kiX4_init_f18 : Cond.fieldLink RX4 18 "WeatherMinistry$Reason" "numberBehind" "I" ∈ wsX4_init := by decide +kernel
theorem kiX4_init_f21 : Cond.fieldLink RX4 21 "WeatherMinistry$Reason" "detailBehind" "I" ∈ wsX4_init := by decide +kernel
theorem kiX3_init_ol : Cond.methodLink RX3 3 Lib.objectInit ∈ wsX3_init := by decide +kernel
theorem kiX3_init_oi : Cond.instanceMethod Lib.objectInit ∈ wsX3_init := by decide +kernel
theorem kiX3_init_oc : Cond.code Lib.objectInit ⟨#[0xb1]⟩ 1 none ∈ wsX3_init := by decide +kernel
theorem kiX3_init_wX3 : ∀ w ∈ u_ws RX3 TX3 8, w ∈ wsX3_init := by decide +kernel
theorem kiX3_init_f9 : Cond.fieldLink RX3 9 "WeatherMinistry$Realm" "month" "I" ∈ wsX3_init := by decide +kernel
theorem kiX3_init_ai : Cond.arrayClass .int ∈ wsX3_init := by decide +kernel
theorem kiX3_init_f15 : Cond.fieldLink RX3 15 "WeatherMinistry$Realm" "sun" "[I" ∈ wsX3_init := by decide +kernel
theorem kiX3_init_f19 : Cond.fieldLink RX3 19 "WeatherMinistry$Realm" "rain" "[I" ∈ wsX3_init := by decide +kernel
theorem kiX3_init_f22 : Cond.fieldLink RX3 22 "WeatherMinistry$Realm" "umbrellas" "[I" ∈ wsX3_init := by decide +kernel
theorem kiX3_init_f25 : Cond.fieldLink RX3 25 "WeatherMinistry$Realm" "arrears" "[I" ∈ wsX3_init := by decide +kernel
theorem kiX3_init_wX6 : ∀ w ∈ u_ws RX6 TX6 2, w ∈ wsX3_init := by decide +kernel
theorem kiX3_init_cl28 : Cond.classLink RX3 28 RX6 ∈ wsX3_init := by decide +kernel
theorem kiX3_init_inX6 : Cond.instantiable RX6 2 ∈ wsX3_init := by decide +kernel
theorem kiX3_init_itX6 : Cond.initialized RX6 ∈ wsX3_init := by decide +kernel
theorem kiX3_init_imX6 : Cond.instanceMethod yX6_init ∈ wsX3_init := by decide +kernel
theorem kiX3_init_f31 : Cond.fieldLink RX3 31 "WeatherMinistry$Realm" "treaties" "LWeatherMinistry$Treaties;" ∈ wsX3_init := by decide +kernel
theorem kiX3_init_wX1 : ∀ w ∈ u_ws RX1 TX1 4, w ∈ wsX3_init := by decide +kernel
theorem kiX3_init_cl35 : Cond.classLink RX3 35 RX1 ∈ wsX3_init := by decide +kernel
theorem kiX3_init_inX1 : Cond.instantiable RX1 4 ∈ wsX3_init := by decide +kernel
theorem kiX3_init_itX1 : Cond.initialized RX1 ∈ wsX3_init := by decide +kernel
theorem kiX3_init_imX1 : Cond.instanceMethod yX1_init ∈ wsX3_init := by decide +kernel
theorem kiX3_init_f38 : Cond.fieldLink RX3 38 "WeatherMinistry$Realm" "credits" "LWeatherMinistry$Credits;" ∈ wsX3_init := by decide +kernel
theorem kiX3_init_wX0 : ∀ w ∈ u_ws RX0 TX0 8, w ∈ wsX3_init := by decide +kernel
theorem kiX3_init_cl42 : Cond.classLink RX3 42 RX0 ∈ wsX3_init := by decide +kernel
theorem kiX3_init_inX0 : Cond.instantiable RX0 8 ∈ wsX3_init := by decide +kernel
theorem kiX3_init_itX0 : Cond.initialized RX0 ∈ wsX3_init := by decide +kernel
theorem kiX3_init_imX0 : Cond.instanceMethod yX0_init ∈ wsX3_init := by decide +kernel
theorem kiX3_init_f45 : Cond.fieldLink RX3 45 "WeatherMinistry$Realm" "books" "LWeatherMinistry$Books;" ∈ wsX3_init := by decide +kernel
theorem kiJ5_init_d00df_ol : Cond.methodLink RJ5 3 Lib.objectInit ∈ wsJ5_init_d00df := by decide +kernel
theorem kiJ5_init_d00df_oi : Cond.instanceMethod Lib.objectInit ∈ wsJ5_init_d00df := by decide +kernel
theorem kiJ5_init_d00df_oc : Cond.code Lib.objectInit ⟨#[0xb1]⟩ 1 none ∈ wsJ5_init_d00df := by decide +kernel
theorem kiJ5_init_d00df_f18 : Cond.fieldLink RJ5 18 "java/lang/String" "COMPACT_STRINGS" "Z" ∈ wsJ5_init_d00df := by decide +kernel
theorem kiJ5_init_d00df_ab : Cond.arrayClass .byte ∈ wsJ5_init_d00df := by decide +kernel
theorem kiJ5_init_d00df_wJ4 : ∀ w ∈ u_ws RJ4 TJ4 4, w ∈ wsJ5_init_d00df := by decide +kernel
theorem kiJ5_init_d00df_f15 : Cond.fieldLink RJ5 15 "java/lang/AbstractStringBuilder" "value" "[B" ∈ wsJ5_init_d00df := by decide +kernel
theorem kiJ5_init_d00df_f22 : Cond.fieldLink RJ5 22 "java/lang/AbstractStringBuilder" "coder" "B" ∈ wsJ5_init_d00df := by decide +kernel
theorem kiJ4_init_da8c8_itJ5 : Cond.initialized RJ5 ∈ wsJ4_init_da8c8 := by decide +kernel
theorem kiJ4_init_da8c8_imJ5 : Cond.instanceMethod yJ5_init_d00df ∈ wsJ4_init_da8c8 := by decide +kernel
theorem kiJ4_init_da8c8_ml1 : Cond.methodLink RJ4 1 yJ5_init_d00df ∈ wsJ4_init_da8c8 := by decide +kernel
theorem kiX2_init_ol : Cond.methodLink RX2 3 Lib.objectInit ∈ wsX2_init := by decide +kernel
theorem kiX2_init_oi : Cond.instanceMethod Lib.objectInit ∈ wsX2_init := by decide +kernel
theorem kiX2_init_oc : Cond.code Lib.objectInit ⟨#[0xb1]⟩ 1 none ∈ wsX2_init := by decide +kernel
theorem kiX2_init_wX2 : ∀ w ∈ u_ws RX2 TX2 3, w ∈ wsX2_init := by decide +kernel
theorem kiX2_init_f9 : Cond.fieldLink RX2 9 "WeatherMinistry$History" "count" "I" ∈ wsX2_init := by decide +kernel
theorem kiX2_init_f15 : Cond.fieldLink RX2 15 "WeatherMinistry$History" "slot" "I" ∈ wsX2_init := by decide +kernel
theorem kiX2_init_cl18 : Cond.classLink RX2 18 RX3 ∈ wsX2_init := by decide +kernel
theorem kiX2_init_f20 : Cond.fieldLink RX2 20 "WeatherMinistry$History" "rows" "[LWeatherMinistry$Realm;" ∈ wsX2_init := by decide +kernel
theorem kiX2_init_wX3 : ∀ w ∈ u_ws RX3 TX3 8, w ∈ wsX2_init := by decide +kernel
theorem kiX2_init_inX3 : Cond.instantiable RX3 8 ∈ wsX2_init := by decide +kernel
theorem kiX2_init_itX3 : Cond.initialized RX3 ∈ wsX2_init := by decide +kernel
theorem kiX2_init_imX3 : Cond.instanceMethod yX3_init ∈ wsX2_init := by decide +kernel
theorem kiX2_init_ml24 : Cond.methodLink RX2 24 yX3_init ∈ wsX2_init := by decide +kernel
theorem kiX5_init_ol : Cond.methodLink RX5 3 Lib.objectInit ∈ wsX5_init := by decide +kernel
theorem kiX5_init_oi : Cond.instanceMethod Lib.objectInit ∈ wsX5_init := by decide +kernel
theorem kiX5_init_oc : Cond.code Lib.objectInit ⟨#[0xb1]⟩ 1 none ∈ wsX5_init := by decide +kernel
theorem kiX5_init_wJ4 : ∀ w ∈ u_ws RJ4 TJ4 4, w ∈ wsX5_init := by decide +kernel
theorem kiX5_init_cl9 : Cond.classLink RX5 9 RJ4 ∈ wsX5_init := by decide +kernel
theorem kiX5_init_inJ4 : Cond.instantiable RJ4 4 ∈ wsX5_init := by decide +kernel
theorem kiX5_init_itJ4 : Cond.initialized RJ4 ∈ wsX5_init := by decide +kernel
theorem kiX5_init_imJ4 : Cond.instanceMethod yJ4_init_da8c8 ∈ wsX5_init := by decide +kernel
theorem kiX5_init_ml11 : Cond.methodLink RX5 11 yJ4_init_da8c8 ∈ wsX5_init := by decide +kernel
theorem kiX5_init_wX5 : ∀ w ∈ u_ws RX5 TX5 5, w ∈ wsX5_init := by decide +kernel
theorem kiX5_init_f12 : Cond.fieldLink RX5 12 "WeatherMinistry$Text" "signs" "Ljava/lang/StringBuilder;" ∈ wsX5_init := by decide +kernel
theorem kiX5_init_f18 : Cond.fieldLink RX5 18 "WeatherMinistry$Text" "at" "I" ∈ wsX5_init := by decide +kernel
theorem kiX5_init_f22 : Cond.fieldLink RX5 22 "WeatherMinistry$Text" "count" "I" ∈ wsX5_init := by decide +kernel
theorem kiX5_init_ai : Cond.arrayClass .int ∈ wsX5_init := by decide +kernel
theorem kiX5_init_f25 : Cond.fieldLink RX5 25 "WeatherMinistry$Text" "kinds" "[I" ∈ wsX5_init := by decide +kernel
theorem kiX5_init_cl29 : Cond.classLink RX5 29 "[[I" ∈ wsX5_init := by decide +kernel
theorem kiX5_init_f31 : Cond.fieldLink RX5 31 "WeatherMinistry$Text" "numbers" "[[I" ∈ wsX5_init := by decide +kernel
set_option maxHeartbeats 8000000 in
set_option maxRecDepth 100000 in
theorem c_X0_init (l : Launch) {D : va_G} {Y : Nat → ClassId} {Z : (Nat → Prop) → State → Heap → Prop} (hZ : sg_Zok Z) {h0 : Nat} : sg_XV l yX0_init wsX0_init 1 12 0 0 D Y Z [.ref h0] [(h0, .inr (2, [.int 0, .int 0, .int 0, .int 0, .int 0, .int 0, .int 0, .int 0]))] (fun u : Nat → Nat => u 0 = h0) (fun u => ww_X0 Y u iX0) := by
  intro sz
  refine sg_enterX (own := RX0) (maxL := 1) (ret := none) (cc := cX0_init) (by decide +kernel) rfl rfl (Nat.le_of_ble_eq_true rfl) hZ ?_
  intro p e s m args below meth c C hr hnm Q hQ hsz
  have hnm : meth.name = "<init>" := hnm
  refine g_lv (lv2 := [(0, .ref h0)]) [0] rfl ?_
  refine g_aload_n 1 C dX0_init_0 rfl rfl rfl ?_
  refine g_objInit 4 C kiX0_init_ol kiX0_init_oi kiX0_init_oc (Nat.le_of_ble_eq_true rfl) (Nat.le_of_ble_eq_true rfl) dX0_init_1 rfl ?_
  refine g_aload_n 5 C dX0_init_4 rfl rfl rfl ?_
  refine g_iconst 6 C 0 dX0_init_5 rfl (by decide) ?_
  refine g_put 9 C (own := RX0) (C1 := RX0) (T := TX0) (w2 := [(h0, .inr (2, [.int 0, .int 0, .int 0, .int 0, .int 0, .int 0, .int 0, .int 0]))]) 0 0 tyX0 tyX0_ok nmX0 kiX0_init_wX0 kiX0_init_f9 rfl rfl (ty := .int) (by decide) rfl rfl (sg_blt rfl) dX0_init_6 rfl rfl rfl (by decide) rfl ?_
  refine g_aload_n 10 C dX0_init_9 rfl rfl rfl ?_
  refine g_iconst 11 C 0 dX0_init_10 rfl (by decide) ?_
  refine g_put 14 C (own := RX0) (C1 := RX0) (T := TX0) (w2 := [(h0, .inr (2, [.int 0, .int 0, .int 0, .int 0, .int 0, .int 0, .int 0, .int 0]))]) 0 1 tyX0 tyX0_ok nmX0 kiX0_init_wX0 kiX0_init_f15 rfl rfl (ty := .int) (by decide) rfl rfl (sg_blt rfl) dX0_init_11 rfl rfl rfl (by decide) rfl ?_
  refine g_aload_n 15 C dX0_init_14 rfl rfl rfl ?_
  refine g_iconst 16 C 0 dX0_init_15 rfl (by decide) ?_
  refine g_put 19 C (own := RX0) (C1 := RX0) (T := TX0) (w2 := [(h0, .inr (2, [.int 0, .int 0, .int 0, .int 0, .int 0, .int 0, .int 0, .int 0]))]) 0 2 tyX0 tyX0_ok nmX0 kiX0_init_wX0 kiX0_init_f18 rfl rfl (ty := .int) (by decide) rfl rfl (sg_blt rfl) dX0_init_16 rfl rfl rfl (by decide) rfl ?_
  refine g_aload_n 20 C dX0_init_19 rfl rfl rfl ?_
  refine g_iconst 21 C 0 dX0_init_20 rfl (by decide) ?_
  refine g_put 24 C (own := RX0) (C1 := RX0) (T := TX0) (w2 := [(h0, .inr (2, [.int 0, .int 0, .int 0, .int 0, .int 0, .int 0, .int 0, .int 0]))]) 0 3 tyX0 tyX0_ok nmX0 kiX0_init_wX0 kiX0_init_f21 rfl rfl (ty := .int) (by decide) rfl rfl (sg_blt rfl) dX0_init_21 rfl rfl rfl (by decide) rfl ?_
  refine g_aload_n 25 C dX0_init_24 rfl rfl rfl ?_
  refine g_iconst 26 C 0 dX0_init_25 rfl (by decide) ?_
  refine g_put 29 C (own := RX0) (C1 := RX0) (T := TX0) (w2 := [(h0, .inr (2, [.int 0, .int 0, .int 0, .int 0, .int 0, .int 0, .int 0, .int 0]))]) 0 4 tyX0 tyX0_ok nmX0 kiX0_init_wX0 kiX0_init_f24 rfl rfl (ty := .int) (by decide) rfl rfl (sg_blt rfl) dX0_init_26 rfl rfl rfl (by decide) rfl ?_
  refine g_aload_n 30 C dX0_init_29 rfl rfl rfl ?_
  refine g_iconst 31 C 0 dX0_init_30 rfl (by decide) ?_
  refine g_put 34 C (own := RX0) (C1 := RX0) (T := TX0) (w2 := [(h0, .inr (2, [.int 0, .int 0, .int 0, .int 0, .int 0, .int 0, .int 0, .int 0]))]) 0 5 tyX0 tyX0_ok nmX0 kiX0_init_wX0 kiX0_init_f27 rfl rfl (ty := .int) (by decide) rfl rfl (sg_blt rfl) dX0_init_31 rfl rfl rfl (by decide) rfl ?_
  refine g_aload_n 35 C dX0_init_34 rfl rfl rfl ?_
  refine g_iconst 36 C 0 dX0_init_35 rfl (by decide) ?_
  refine g_put 39 C (own := RX0) (C1 := RX0) (T := TX0) (w2 := [(h0, .inr (2, [.int 0, .int 0, .int 0, .int 0, .int 0, .int 0, .int 0, .int 0]))]) 0 6 tyX0 tyX0_ok nmX0 kiX0_init_wX0 kiX0_init_f30 rfl rfl (ty := .int) (by decide) rfl rfl (sg_blt rfl) dX0_init_36 rfl rfl rfl (by decide) rfl ?_
  refine g_aload_n 40 C dX0_init_39 rfl rfl rfl ?_
  refine g_iconst 41 C 0 dX0_init_40 rfl (by decide) ?_
  refine g_put 44 C (own := RX0) (C1 := RX0) (T := TX0) (w2 := [(h0, .inr (2, [.int 0, .int 0, .int 0, .int 0, .int 0, .int 0, .int 0, .int 0]))]) 0 7 tyX0 tyX0_ok nmX0 kiX0_init_wX0 kiX0_init_f33 rfl rfl (ty := .int) (by decide) rfl rfl (sg_blt rfl) dX0_init_41 rfl rfl rfl (by decide) rfl ?_
  refine g_widen 0 0 (Nat.le_of_ble_eq_true rfl) (Nat.le_of_ble_eq_true rfl) ?_
  exact g_vretX (fun k => match k with | _ => h0) C hr hQ hsz dX0_init_44 rfl rfl
set_option maxHeartbeats 8000000 in
set_option maxRecDepth 100000 in
theorem c_X1_init (l : Launch) {D : va_G} {Y : Nat → ClassId} {Z : (Nat → Prop) → State → Heap → Prop} (hZ : sg_Zok Z) {h0 : Nat} : sg_XV l yX1_init wsX1_init 1 12 3 24 D Y Z [.ref h0] [(h0, .inr (3, [.int 0, .null, .null, .null]))] (fun u : Nat → Nat => u 0 = h0) (fun u => ww_X1 Y u iX1) := by
  intro sz
  refine sg_enterX (own := RX1) (maxL := 1) (ret := none) (cc := cX1_init) (by decide +kernel) rfl rfl (Nat.le_of_ble_eq_true rfl) hZ ?_
  intro p e s m args below meth c C hr hnm Q hQ hsz
  have hnm : meth.name = "<init>" := hnm
  refine g_lv (lv2 := [(0, .ref h0)]) [0] rfl ?_
  refine g_aload_n 1 C dX1_init_0 rfl rfl rfl ?_
  refine g_objInit 4 C kiX1_init_ol kiX1_init_oi kiX1_init_oc (Nat.le_of_ble_eq_true rfl) (Nat.le_of_ble_eq_true rfl) dX1_init_1 rfl ?_
  refine g_aload_n 5 C dX1_init_4 rfl rfl rfl ?_
  refine g_iconst 6 C 0 dX1_init_5 rfl (by decide) ?_
  refine g_put 9 C (own := RX1) (C1 := RX1) (T := TX1) (w2 := [(h0, .inr (3, [.int 0, .null, .null, .null]))]) 0 0 tyX1 tyX1_ok nmX1 kiX1_init_wX1 kiX1_init_f9 rfl rfl (ty := .int) (by decide) rfl rfl (sg_blt rfl) dX1_init_6 rfl rfl rfl (by decide) rfl ?_
  refine g_aload_n 10 C dX1_init_9 rfl rfl rfl ?_
  refine g_bipush 12 C 8 dX1_init_10 rfl (by decide) ?_
  refine g_newaI 14 C 8 kiX1_init_ai (by decide) rfl (Nat.le_of_ble_eq_true rfl) (Nat.le_of_ble_eq_true rfl) (Nat.le_of_ble_eq_true rfl) dX1_init_12 rfl (fun q1 => ?_)
  refine g_putF 17 C (own := RX1) (C1 := RX1) (T := TX1) (w2 := [(h0, .inr (3, [.int 0, .ref q1, .null, .null])), (q1, .inl (Y 0, 8, .inl (fun _ => 0)))]) 0 1 tyX1 tyX1_ok nmX1 kiX1_init_wX1 kiX1_init_f15 rfl rfl hnm rfl (ty := (.array .int)) (by decide) rfl rfl (sg_blt rfl) dX1_init_14 rfl rfl rfl (by decide) rfl ?_
  refine g_aload_n 18 C dX1_init_17 rfl rfl rfl ?_
  refine g_bipush 20 C 8 dX1_init_18 rfl (by decide) ?_
  refine g_newaI 22 C 8 kiX1_init_ai (by decide) rfl (Nat.le_of_ble_eq_true rfl) (Nat.le_of_ble_eq_true rfl) (Nat.le_of_ble_eq_true rfl) dX1_init_20 rfl (fun q2 => ?_)
  refine g_putF 25 C (own := RX1) (C1 := RX1) (T := TX1) (w2 := [(h0, .inr (3, [.int 0, .ref q1, .ref q2, .null])), (q1, .inl (Y 0, 8, .inl (fun _ => 0))), (q2, .inl (Y 0, 8, .inl (fun _ => 0)))]) 0 2 tyX1 tyX1_ok nmX1 kiX1_init_wX1 kiX1_init_f19 rfl rfl hnm rfl (ty := (.array .int)) (by decide) rfl rfl (sg_blt rfl) dX1_init_22 rfl rfl rfl (by decide) rfl ?_
  refine g_aload_n 26 C dX1_init_25 rfl rfl rfl ?_
  refine g_bipush 28 C 8 dX1_init_26 rfl (by decide) ?_
  refine g_newaI 30 C 8 kiX1_init_ai (by decide) rfl (Nat.le_of_ble_eq_true rfl) (Nat.le_of_ble_eq_true rfl) (Nat.le_of_ble_eq_true rfl) dX1_init_28 rfl (fun q3 => ?_)
  refine g_putF 33 C (own := RX1) (C1 := RX1) (T := TX1) (w2 := [(h0, .inr (3, [.int 0, .ref q1, .ref q2, .ref q3])), (q1, .inl (Y 0, 8, .inl (fun _ => 0))), (q2, .inl (Y 0, 8, .inl (fun _ => 0))), (q3, .inl (Y 0, 8, .inl (fun _ => 0)))]) 0 3 tyX1 tyX1_ok nmX1 kiX1_init_wX1 kiX1_init_f22 rfl rfl hnm rfl (ty := (.array .int)) (by decide) rfl rfl (sg_blt rfl) dX1_init_30 rfl rfl rfl (by decide) rfl ?_
  refine g_widen 3 24 (Nat.le_of_ble_eq_true rfl) (Nat.le_of_ble_eq_true rfl) ?_
  exact g_vretX (fun k => match k with | 0 => h0 | 1 => q1 | 2 => q2 | _ => q3) C hr hQ hsz dX1_init_33 rfl rfl
set_option maxHeartbeats 8000000 in
set_option maxRecDepth 100000 in
theorem c_X6_init (l : Launch) {D : va_G} {Y : Nat → ClassId} {Z : (Nat → Prop) → State → Heap → Prop} (hZ : sg_Zok Z) {h0 : Nat} : sg_XV l yX6_init wsX6_init 1 12 2 10 D Y Z [.ref h0] [(h0, .inr (8, [.null, .null]))] (fun u : Nat → Nat => u 0 = h0) (fun u => ww_X6 Y u iX6) := by
  intro sz
  refine sg_enterX (own := RX6) (maxL := 1) (ret := none) (cc := cX6_init) (by decide +kernel) rfl rfl (Nat.le_of_ble_eq_true rfl) hZ ?_
  intro p e s m args below meth c C hr hnm Q hQ hsz
  have hnm : meth.name = "<init>" := hnm
  refine g_lv (lv2 := [(0, .ref h0)]) [0] rfl ?_
  refine g_aload_n 1 C dX6_init_0 rfl rfl rfl ?_
  refine g_objInit 4 C kiX6_init_ol kiX6_init_oi kiX6_init_oc (Nat.le_of_ble_eq_true rfl) (Nat.le_of_ble_eq_true rfl) dX6_init_1 rfl ?_
  refine g_aload_n 5 C dX6_init_4 rfl rfl rfl ?_
  refine g_iconst 6 C 5 dX6_init_5 rfl (by decide) ?_
  refine g_newaI 8 C 5 kiX6_init_ai (by decide) rfl (Nat.le_of_ble_eq_true rfl) (Nat.le_of_ble_eq_true rfl) (Nat.le_of_ble_eq_true rfl) dX6_init_6 rfl (fun q1 => ?_)
  refine g_putF 11 C (own := RX6) (C1 := RX6) (T := TX6) (w2 := [(h0, .inr (8, [.ref q1, .null])), (q1, .inl (Y 0, 5, .inl (fun _ => 0)))]) 0 0 tyX6 tyX6_ok nmX6 kiX6_init_wX6 kiX6_init_f9 rfl rfl hnm rfl (ty := (.array .int)) (by decide) rfl rfl (sg_blt rfl) dX6_init_8 rfl rfl rfl (by decide) rfl ?_
  refine g_aload_n 12 C dX6_init_11 rfl rfl rfl ?_
  refine g_iconst 13 C 5 dX6_init_12 rfl (by decide) ?_
  refine g_newaI 15 C 5 kiX6_init_ai (by decide) rfl (Nat.le_of_ble_eq_true rfl) (Nat.le_of_ble_eq_true rfl) (Nat.le_of_ble_eq_true rfl) dX6_init_13 rfl (fun q2 => ?_)
  refine g_putF 18 C (own := RX6) (C1 := RX6) (T := TX6) (w2 := [(h0, .inr (8, [.ref q1, .ref q2])), (q1, .inl (Y 0, 5, .inl (fun _ => 0))), (q2, .inl (Y 0, 5, .inl (fun _ => 0)))]) 0 1 tyX6 tyX6_ok nmX6 kiX6_init_wX6 kiX6_init_f15 rfl rfl hnm rfl (ty := (.array .int)) (by decide) rfl rfl (sg_blt rfl) dX6_init_15 rfl rfl rfl (by decide) rfl ?_
  refine g_widen 2 10 (Nat.le_of_ble_eq_true rfl) (Nat.le_of_ble_eq_true rfl) ?_
  exact g_vretX (fun k => match k with | 0 => h0 | 1 => q1 | _ => q2) C hr hQ hsz dX6_init_18 rfl rfl
set_option maxHeartbeats 8000000 in
set_option maxRecDepth 100000 in
theorem c_X4_init (l : Launch) {D : va_G} {Y : Nat → ClassId} {Z : (Nat → Prop) → State → Heap → Prop} (hZ : sg_Zok Z) {h0 : Nat} : sg_XV l yX4_init wsX4_init 1 12 0 0 D Y Z [.ref h0] [(h0, .inr (6, [.int 0, .int 0, .int 0, .int 0]))] (fun u : Nat → Nat => u 0 = h0) (fun u => ww_X4 Y u iX4) := by
  intro sz
  refine sg_enterX (own := RX4) (maxL := 1) (ret := none) (cc := cX4_init) (by decide +kernel) rfl rfl (Nat.le_of_ble_eq_true rfl) hZ ?_
  intro p e s m args below meth c C hr hnm Q hQ hsz
  have hnm : meth.name = "<init>" := hnm
  refine g_lv (lv2 := [(0, .ref h0)]) [0] rfl ?_
  refine g_aload_n 1 C dX4_init_0 rfl rfl rfl ?_
  refine g_objInit 4 C kiX4_init_ol kiX4_init_oi kiX4_init_oc (Nat.le_of_ble_eq_true rfl) (Nat.le_of_ble_eq_true rfl) dX4_init_1 rfl ?_
  refine g_aload_n 5 C dX4_init_4 rfl rfl rfl ?_
  refine g_iconst 6 C 0 dX4_init_5 rfl (by decide) ?_
  refine g_put 9 C (own := RX4) (C1 := RX4) (T := TX4) (w2 := [(h0, .inr (6, [.int 0, .int 0, .int 0, .int 0]))]) 0 0 tyX4 tyX4_ok nmX4 kiX4_init_wX4 kiX4_init_f9 rfl rfl (ty := .int) (by decide) rfl rfl (sg_blt rfl) dX4_init_6 rfl rfl rfl (by decide) rfl ?_
  refine g_aload_n 10 C dX4_init_9 rfl rfl rfl ?_
  refine g_iconst 11 C 0 dX4_init_10 rfl (by decide) ?_
  refine g_put 14 C (own := RX4) (C1 := RX4) (T := TX4) (w2 := [(h0, .inr (6, [.int 0, .int 0, .int 0, .int 0]))]) 0 1 tyX4 tyX4_ok nmX4 kiX4_init_wX4 kiX4_init_f15 rfl rfl (ty := .int) (by decide) rfl rfl (sg_blt rfl) dX4_init_11 rfl rfl rfl (by decide) rfl ?_
  refine g_aload_n 15 C dX4_init_14 rfl rfl rfl ?_
  refine g_iconst 16 C 0 dX4_init_15 rfl (by decide) ?_
  refine g_put 19 C (own := RX4) (C1 := RX4) (T := TX4) (w2 := [(h0, .inr (6, [.int 0, .int 0, .int 0, .int 0]))]) 0 2 tyX4 tyX4_ok nmX4 kiX4_init_wX4 kiX4_init_f18 rfl rfl (ty := .int) (by decide) rfl rfl (sg_blt rfl) dX4_init_16 rfl rfl rfl (by decide) rfl ?_
  refine g_aload_n 20 C dX4_init_19 rfl rfl rfl ?_
  refine g_iconst 21 C 0 dX4_init_20 rfl (by decide) ?_
  refine g_put 24 C (own := RX4) (C1 := RX4) (T := TX4) (w2 := [(h0, .inr (6, [.int 0, .int 0, .int 0, .int 0]))]) 0 3 tyX4 tyX4_ok nmX4 kiX4_init_wX4 kiX4_init_f21 rfl rfl (ty := .int) (by decide) rfl rfl (sg_blt rfl) dX4_init_21 rfl rfl rfl (by decide) rfl ?_
  refine g_widen 0 0 (Nat.le_of_ble_eq_true rfl) (Nat.le_of_ble_eq_true rfl) ?_
  exact g_vretX (fun k => match k with | _ => h0) C hr hQ hsz dX4_init_24 rfl rfl
set_option maxHeartbeats 8000000 in
set_option maxRecDepth 100000 in
theorem c_X3_init (l : Launch) {D : va_G} {Y : Nat → ClassId} {Z : (Nat → Prop) → State → Heap → Prop} (hZ : sg_Zok Z) (hZN : sg_ZN Z) {h0 : Nat} : sg_XV l yX3_init wsX3_init 2 32 12 68 D Y Z [.ref h0] [(h0, .inr (5, [.int 0, .null, .null, .null, .null, .null, .null, .null]))] (fun u : Nat → Nat => u 0 = h0) (fun u => ww_X3 Y u iX3) := by
  intro sz
  refine sg_enterX (own := RX3) (maxL := 2) (ret := none) (cc := cX3_init) (by decide +kernel) rfl rfl (Nat.le_of_ble_eq_true rfl) hZ ?_
  intro p e s m args below meth c C hr hnm Q hQ hsz
  have hnm : meth.name = "<init>" := hnm
  refine g_lv (lv2 := [(0, .ref h0)]) [0] rfl ?_
  refine g_aload_n 1 C dX3_init_0 rfl rfl rfl ?_
  refine g_objInit 4 C kiX3_init_ol kiX3_init_oi kiX3_init_oc (Nat.le_of_ble_eq_true rfl) (Nat.le_of_ble_eq_true rfl) dX3_init_1 rfl ?_
  refine g_aload_n 5 C dX3_init_4 rfl rfl rfl ?_
  refine g_iconst 6 C 0 dX3_init_5 rfl (by decide) ?_
  refine g_put 9 C (own := RX3) (C1 := RX3) (T := TX3) (w2 := [(h0, .inr (5, [.int 0, .null, .null, .null, .null, .null, .null, .null]))]) 0 0 tyX3 tyX3_ok nmX3 kiX3_init_wX3 kiX3_init_f9 rfl rfl (ty := .int) (by decide) rfl rfl (sg_blt rfl) dX3_init_6 rfl rfl rfl (by decide) rfl ?_
  refine g_aload_n 10 C dX3_init_9 rfl rfl rfl ?_
  refine g_iconst 11 C 5 dX3_init_10 rfl (by decide) ?_
  refine g_newaI 13 C 5 kiX3_init_ai (by decide) rfl (Nat.le_of_ble_eq_true rfl) (Nat.le_of_ble_eq_true rfl) (Nat.le_of_ble_eq_true rfl) dX3_init_11 rfl (fun q1 => ?_)
  refine g_putF 16 C (own := RX3) (C1 := RX3) (T := TX3) (w2 := [(h0, .inr (5, [.int 0, .ref q1, .null, .null, .null, .null, .null, .null])), (q1, .inl (Y 0, 5, .inl (fun _ => 0)))]) 0 1 tyX3 tyX3_ok nmX3 kiX3_init_wX3 kiX3_init_f15 rfl rfl hnm rfl (ty := (.array .int)) (by decide) rfl rfl (sg_blt rfl) dX3_init_13 rfl rfl rfl (by decide) rfl ?_
  refine g_aload_n 17 C dX3_init_16 rfl rfl rfl ?_
  refine g_iconst 18 C 5 dX3_init_17 rfl (by decide) ?_
  refine g_newaI 20 C 5 kiX3_init_ai (by decide) rfl (Nat.le_of_ble_eq_true rfl) (Nat.le_of_ble_eq_true rfl) (Nat.le_of_ble_eq_true rfl) dX3_init_18 rfl (fun q2 => ?_)
  refine g_putF 23 C (own := RX3) (C1 := RX3) (T := TX3) (w2 := [(h0, .inr (5, [.int 0, .ref q1, .ref q2, .null, .null, .null, .null, .null])), (q1, .inl (Y 0, 5, .inl (fun _ => 0))), (q2, .inl (Y 0, 5, .inl (fun _ => 0)))]) 0 2 tyX3 tyX3_ok nmX3 kiX3_init_wX3 kiX3_init_f19 rfl rfl hnm rfl (ty := (.array .int)) (by decide) rfl rfl (sg_blt rfl) dX3_init_20 rfl rfl rfl (by decide) rfl ?_
  refine g_aload_n 24 C dX3_init_23 rfl rfl rfl ?_
  refine g_iconst 25 C 5 dX3_init_24 rfl (by decide) ?_
  refine g_newaI 27 C 5 kiX3_init_ai (by decide) rfl (Nat.le_of_ble_eq_true rfl) (Nat.le_of_ble_eq_true rfl) (Nat.le_of_ble_eq_true rfl) dX3_init_25 rfl (fun q3 => ?_)
  refine g_putF 30 C (own := RX3) (C1 := RX3) (T := TX3) (w2 := [(h0, .inr (5, [.int 0, .ref q1, .ref q2, .ref q3, .null, .null, .null, .null])), (q1, .inl (Y 0, 5, .inl (fun _ => 0))), (q2, .inl (Y 0, 5, .inl (fun _ => 0))), (q3, .inl (Y 0, 5, .inl (fun _ => 0)))]) 0 3 tyX3 tyX3_ok nmX3 kiX3_init_wX3 kiX3_init_f22 rfl rfl hnm rfl (ty := (.array .int)) (by decide) rfl rfl (sg_blt rfl) dX3_init_27 rfl rfl rfl (by decide) rfl ?_
  refine g_aload_n 31 C dX3_init_30 rfl rfl rfl ?_
  refine g_iconst 32 C 5 dX3_init_31 rfl (by decide) ?_
  refine g_newaI 34 C 5 kiX3_init_ai (by decide) rfl (Nat.le_of_ble_eq_true rfl) (Nat.le_of_ble_eq_true rfl) (Nat.le_of_ble_eq_true rfl) dX3_init_32 rfl (fun q4 => ?_)
  refine g_putF 37 C (own := RX3) (C1 := RX3) (T := TX3) (w2 := [(h0, .inr (5, [.int 0, .ref q1, .ref q2, .ref q3, .ref q4, .null, .null, .null])), (q1, .inl (Y 0, 5, .inl (fun _ => 0))), (q2, .inl (Y 0, 5, .inl (fun _ => 0))), (q3, .inl (Y 0, 5, .inl (fun _ => 0))), (q4, .inl (Y 0, 5, .inl (fun _ => 0)))]) 0 4 tyX3 tyX3_ok nmX3 kiX3_init_wX3 kiX3_init_f25 rfl rfl hnm rfl (ty := (.array .int)) (by decide) rfl rfl (sg_blt rfl) dX3_init_34 rfl rfl rfl (by decide) rfl ?_
  refine g_aload_n 38 C dX3_init_37 rfl rfl rfl ?_
  refine g_new 41 C (C1 := RX6) (T := TX6) (N := 2) (ci := 8) [.null, .null] tyX6 tyX6_ok kiX3_init_wX6 kiX3_init_cl28 kiX3_init_inX6 kiX3_init_itX6 rfl (by decide +kernel) (Nat.le_of_ble_eq_true rfl) (Nat.le_of_ble_eq_true rfl) dX3_init_38 rfl (fun q5 => ?_)
  refine g_dup 42 C dX3_init_41 rfl rfl ?_
  refine g_XINv 45 C (ret := none) (As := []) (n0 := 0) (st := [.ref q5, .ref h0]) (c_X6_init l hZ (h0 := q5)) gX3_init_X6_init_n30 (hZN _ _ _ C.2.2.2.2.2.2.2.2.1).1.1 kiX3_init_itX6 kiX3_init_imX6 rfl ⟨by decide, by decide, by decide +kernel⟩ rfl ⟨(Nat.le_of_ble_eq_true rfl), (Nat.le_of_ble_eq_true rfl)⟩ sg_cutEnd rfl (Nat.le_of_ble_eq_true rfl) ⟨(Nat.le_of_ble_eq_true rfl), (Nat.le_of_ble_eq_true rfl)⟩ dX3_init_42 rfl rfl (fun u1 hu1 => ?_)
  have hu1 : u1 0 = q5 := hu1
  subst hu1
  refine g_putF 48 C (own := RX3) (C1 := RX3) (T := TX3) (w2 := ([(h0, .inr (5, [.int 0, .ref q1, .ref q2, .ref q3, .ref q4, .ref (u1 0), .null, .null])), (q1, .inl (Y 0, 5, .inl (fun _ => 0))), (q2, .inl (Y 0, 5, .inl (fun _ => 0))), (q3, .inl (Y 0, 5, .inl (fun _ => 0))), (q4, .inl (Y 0, 5, .inl (fun _ => 0)))] ++ ww_X6 Y u1 iX6)) 0 5 tyX3 tyX3_ok nmX3 kiX3_init_wX3 kiX3_init_f31 rfl rfl hnm rfl (ty := (.object "WeatherMinistry$Treaties")) (by decide) rfl rfl (sg_blt rfl) dX3_init_45 rfl rfl rfl (by decide) rfl ?_
  refine g_aload_n 49 C dX3_init_48 rfl rfl rfl ?_
  refine g_new 52 C (C1 := RX1) (T := TX1) (N := 4) (ci := 3) [.int 0, .null, .null, .null] tyX1 tyX1_ok kiX3_init_wX1 kiX3_init_cl35 kiX3_init_inX1 kiX3_init_itX1 rfl (by decide +kernel) (Nat.le_of_ble_eq_true rfl) (Nat.le_of_ble_eq_true rfl) dX3_init_49 rfl (fun q6 => ?_)
  refine g_dup 53 C dX3_init_52 rfl rfl ?_
  refine g_XINv 56 C (ret := none) (As := []) (n0 := 0) (st := [.ref q6, .ref h0]) (c_X1_init l hZ (h0 := q6)) gX3_init_X1_init_n37 (hZN _ _ _ C.2.2.2.2.2.2.2.2.1).1.2.1 kiX3_init_itX1 kiX3_init_imX1 rfl ⟨by decide, by decide, by decide +kernel⟩ rfl ⟨(Nat.le_of_ble_eq_true rfl), (Nat.le_of_ble_eq_true rfl)⟩ sg_cutEnd rfl (Nat.le_of_ble_eq_true rfl) ⟨(Nat.le_of_ble_eq_true rfl), (Nat.le_of_ble_eq_true rfl)⟩ dX3_init_53 rfl rfl (fun u2 hu2 => ?_)
  have hu2 : u2 0 = q6 := hu2
  subst hu2
  refine g_putF 59 C (own := RX3) (C1 := RX3) (T := TX3) (w2 := (([(h0, .inr (5, [.int 0, .ref q1, .ref q2, .ref q3, .ref q4, .ref (u1 0), .ref (u2 0), .null])), (q1, .inl (Y 0, 5, .inl (fun _ => 0))), (q2, .inl (Y 0, 5, .inl (fun _ => 0))), (q3, .inl (Y 0, 5, .inl (fun _ => 0))), (q4, .inl (Y 0, 5, .inl (fun _ => 0)))] ++ ww_X6 Y u1 iX6) ++ ww_X1 Y u2 iX1)) 0 6 tyX3 tyX3_ok nmX3 kiX3_init_wX3 kiX3_init_f38 rfl rfl hnm rfl (ty := (.object "WeatherMinistry$Credits")) (by decide) rfl rfl (sg_blt rfl) dX3_init_56 rfl rfl rfl (by decide) rfl ?_
  refine g_aload_n 60 C dX3_init_59 rfl rfl rfl ?_
  refine g_new 63 C (C1 := RX0) (T := TX0) (N := 8) (ci := 2) [.int 0, .int 0, .int 0, .int 0, .int 0, .int 0, .int 0, .int 0] tyX0 tyX0_ok kiX3_init_wX0 kiX3_init_cl42 kiX3_init_inX0 kiX3_init_itX0 rfl (by decide +kernel) (Nat.le_of_ble_eq_true rfl) (Nat.le_of_ble_eq_true rfl) dX3_init_60 rfl (fun q7 => ?_)
  refine g_dup 64 C dX3_init_63 rfl rfl ?_
  refine g_XINv 67 C (ret := none) (As := []) (n0 := 0) (st := [.ref q7, .ref h0]) (c_X0_init l hZ (h0 := q7)) gX3_init_X0_init_n44 (hZN _ _ _ C.2.2.2.2.2.2.2.2.1).1.2.2.1 kiX3_init_itX0 kiX3_init_imX0 rfl ⟨by decide, by decide, by decide +kernel⟩ rfl ⟨(Nat.le_of_ble_eq_true rfl), (Nat.le_of_ble_eq_true rfl)⟩ sg_cutEnd rfl (Nat.le_of_ble_eq_true rfl) ⟨(Nat.le_of_ble_eq_true rfl), (Nat.le_of_ble_eq_true rfl)⟩ dX3_init_64 rfl rfl (fun u3 hu3 => ?_)
  have hu3 : u3 0 = q7 := hu3
  subst hu3
  refine g_putF 70 C (own := RX3) (C1 := RX3) (T := TX3) (w2 := ((([(h0, .inr (5, [.int 0, .ref q1, .ref q2, .ref q3, .ref q4, .ref (u1 0), .ref (u2 0), .ref (u3 0)])), (q1, .inl (Y 0, 5, .inl (fun _ => 0))), (q2, .inl (Y 0, 5, .inl (fun _ => 0))), (q3, .inl (Y 0, 5, .inl (fun _ => 0))), (q4, .inl (Y 0, 5, .inl (fun _ => 0)))] ++ ww_X6 Y u1 iX6) ++ ww_X1 Y u2 iX1) ++ ww_X0 Y u3 iX0)) 0 7 tyX3 tyX3_ok nmX3 kiX3_init_wX3 kiX3_init_f45 rfl rfl hnm rfl (ty := (.object "WeatherMinistry$Books")) (by decide) rfl rfl (sg_blt rfl) dX3_init_67 rfl rfl rfl (by decide) rfl ?_
  refine g_iconst 71 C 0 dX3_init_70 rfl (by decide) ?_
  refine g_istore_n 72 C [(1, .int 0), (0, .ref h0)] dX3_init_71 rfl rfl (by decide) rfl ?_
  refine g_iload_n 73 C dX3_init_72 rfl rfl rfl ?_
  refine g_iconst 74 C 5 dX3_init_73 rfl (by decide) ?_
  refine g_icmp_ge 77 98 C dX3_init_74 (by decide) rfl (T := none) (E := some ()) (v := ()) (by decide) (fun h => by cases h) (fun _ => ?_)
  refine g_aload_n 78 C dX3_init_77 rfl rfl rfl ?_
  refine g_get 81 C (own := RX3) (C1 := RX3) (T := TX3) 0 1 (.ref q1) kiX3_init_wX3 kiX3_init_f15 rfl dX3_init_78 rfl rfl rfl (by decide) rfl ?_
  refine g_iload_n 82 C dX3_init_81 rfl rfl rfl ?_
  refine g_bipush 84 C 10 dX3_init_82 rfl (by decide) ?_
  refine g_iast 85 C (w2 := ((([(h0, .inr (5, [.int 0, .ref q1, .ref q2, .ref q3, .ref q4, .ref (u1 0), .ref (u2 0), .ref (u3 0)])), (q1, .inl (Y 0, 5, .inl (upd (fun _ => 0) 0 10))), (q2, .inl (Y 0, 5, .inl (fun _ => 0))), (q3, .inl (Y 0, 5, .inl (fun _ => 0))), (q4, .inl (Y 0, 5, .inl (fun _ => 0)))] ++ ww_X6 Y u1 iX6) ++ ww_X1 Y u2 iX1) ++ ww_X0 Y u3 iX0)) 1 dX3_init_84 rfl rfl (by decide) rfl ?_
  refine g_aload_n 86 C dX3_init_85 rfl rfl rfl ?_
  refine g_get 89 C (own := RX3) (C1 := RX3) (T := TX3) 0 3 (.ref q3) kiX3_init_wX3 kiX3_init_f22 rfl dX3_init_86 rfl rfl rfl (by decide) rfl ?_
  refine g_iload_n 90 C dX3_init_89 rfl rfl rfl ?_
  refine g_iconst 91 C 2 dX3_init_90 rfl (by decide) ?_
  refine g_iast 92 C (w2 := ((([(h0, .inr (5, [.int 0, .ref q1, .ref q2, .ref q3, .ref q4, .ref (u1 0), .ref (u2 0), .ref (u3 0)])), (q1, .inl (Y 0, 5, .inl (upd (fun _ => 0) 0 10))), (q2, .inl (Y 0, 5, .inl (fun _ => 0))), (q3, .inl (Y 0, 5, .inl (upd (fun _ => 0) 0 2))), (q4, .inl (Y 0, 5, .inl (fun _ => 0)))] ++ ww_X6 Y u1 iX6) ++ ww_X1 Y u2 iX1) ++ ww_X0 Y u3 iX0)) 3 dX3_init_91 rfl rfl (by decide) rfl ?_
  refine g_iinc 95 C 0 1 [(1, .int 1), (0, .ref h0)] dX3_init_92 rfl rfl (by decide) (by decide) rfl ?_
  refine g_goto 72 C dX3_init_95 (by decide) ?_
  refine g_iload_n 73 C dX3_init_72 rfl rfl rfl ?_
  refine g_iconst 74 C 5 dX3_init_73 rfl (by decide) ?_
  refine g_icmp_ge 77 98 C dX3_init_74 (by decide) rfl (T := none) (E := some ()) (v := ()) (by decide) (fun h => by cases h) (fun _ => ?_)
  refine g_aload_n 78 C dX3_init_77 rfl rfl rfl ?_
  refine g_get 81 C (own := RX3) (C1 := RX3) (T := TX3) 0 1 (.ref q1) kiX3_init_wX3 kiX3_init_f15 rfl dX3_init_78 rfl rfl rfl (by decide) rfl ?_
  refine g_iload_n 82 C dX3_init_81 rfl rfl rfl ?_
  refine g_bipush 84 C 10 dX3_init_82 rfl (by decide) ?_
  refine g_iast 85 C (w2 := ((([(h0, .inr (5, [.int 0, .ref q1, .ref q2, .ref q3, .ref q4, .ref (u1 0), .ref (u2 0), .ref (u3 0)])), (q1, .inl (Y 0, 5, .inl (upd (upd (fun _ => 0) 0 10) 1 10))), (q2, .inl (Y 0, 5, .inl (fun _ => 0))), (q3, .inl (Y 0, 5, .inl (upd (fun _ => 0) 0 2))), (q4, .inl (Y 0, 5, .inl (fun _ => 0)))] ++ ww_X6 Y u1 iX6) ++ ww_X1 Y u2 iX1) ++ ww_X0 Y u3 iX0)) 1 dX3_init_84 rfl rfl (by decide) rfl ?_
  refine g_aload_n 86 C dX3_init_85 rfl rfl rfl ?_
  refine g_get 89 C (own := RX3) (C1 := RX3) (T := TX3) 0 3 (.ref q3) kiX3_init_wX3 kiX3_init_f22 rfl dX3_init_86 rfl rfl rfl (by decide) rfl ?_
  refine g_iload_n 90 C dX3_init_89 rfl rfl rfl ?_
  refine g_iconst 91 C 2 dX3_init_90 rfl (by decide) ?_
  refine g_iast 92 C (w2 := ((([(h0, .inr (5, [.int 0, .ref q1, .ref q2, .ref q3, .ref q4, .ref (u1 0), .ref (u2 0), .ref (u3 0)])), (q1, .inl (Y 0, 5, .inl (upd (upd (fun _ => 0) 0 10) 1 10))), (q2, .inl (Y 0, 5, .inl (fun _ => 0))), (q3, .inl (Y 0, 5, .inl (upd (upd (fun _ => 0) 0 2) 1 2))), (q4, .inl (Y 0, 5, .inl (fun _ => 0)))] ++ ww_X6 Y u1 iX6) ++ ww_X1 Y u2 iX1) ++ ww_X0 Y u3 iX0)) 3 dX3_init_91 rfl rfl (by decide) rfl ?_
  refine g_iinc 95 C 0 2 [(1, .int 2), (0, .ref h0)] dX3_init_92 rfl rfl (by decide) (by decide) rfl ?_
  refine g_goto 72 C dX3_init_95 (by decide) ?_
  refine g_iload_n 73 C dX3_init_72 rfl rfl rfl ?_
  refine g_iconst 74 C 5 dX3_init_73 rfl (by decide) ?_
  refine g_icmp_ge 77 98 C dX3_init_74 (by decide) rfl (T := none) (E := some ()) (v := ()) (by decide) (fun h => by cases h) (fun _ => ?_)
  refine g_aload_n 78 C dX3_init_77 rfl rfl rfl ?_
  refine g_get 81 C (own := RX3) (C1 := RX3) (T := TX3) 0 1 (.ref q1) kiX3_init_wX3 kiX3_init_f15 rfl dX3_init_78 rfl rfl rfl (by decide) rfl ?_
  refine g_iload_n 82 C dX3_init_81 rfl rfl rfl ?_
  refine g_bipush 84 C 10 dX3_init_82 rfl (by decide) ?_
  refine g_iast 85 C (w2 := ((([(h0, .inr (5, [.int 0, .ref q1, .ref q2, .ref q3, .ref q4, .ref (u1 0), .ref (u2 0), .ref (u3 0)])), (q1, .inl (Y 0, 5, .inl (upd (upd (upd (fun _ => 0) 0 10) 1 10) 2 10))), (q2, .inl (Y 0, 5, .inl (fun _ => 0))), (q3, .inl (Y 0, 5, .inl (upd (upd (fun _ => 0) 0 2) 1 2))), (q4, .inl (Y 0, 5, .inl (fun _ => 0)))] ++ ww_X6 Y u1 iX6) ++ ww_X1 Y u2 iX1) ++ ww_X0 Y u3 iX0)) 1 dX3_init_84 rfl rfl (by decide) rfl ?_
  refine g_aload_n 86 C dX3_init_85 rfl rfl rfl ?_
  refine g_get 89 C (own := RX3) (C1 := RX3) (T := TX3) 0 3 (.ref q3) kiX3_init_wX3 kiX3_init_f22 rfl dX3_init_86 rfl rfl rfl (by decide) rfl ?_
  refine g_iload_n 90 C dX3_init_89 rfl rfl rfl ?_
  refine g_iconst 91 C 2 dX3_init_90 rfl (by decide) ?_
  refine g_iast 92 C (w2 := ((([(h0, .inr (5, [.int 0, .ref q1, .ref q2, .ref q3, .ref q4, .ref (u1 0), .ref (u2 0), .ref (u3 0)])), (q1, .inl (Y 0, 5, .inl (upd (upd (upd (fun _ => 0) 0 10) 1 10) 2 10))), (q2, .inl (Y 0, 5, .inl (fun _ => 0))), (q3, .inl (Y 0, 5, .inl (upd (upd (upd (fun _ => 0) 0 2) 1 2) 2 2))), (q4, .inl (Y 0, 5, .inl (fun _ => 0)))] ++ ww_X6 Y u1 iX6) ++ ww_X1 Y u2 iX1) ++ ww_X0 Y u3 iX0)) 3 dX3_init_91 rfl rfl (by decide) rfl ?_
  refine g_iinc 95 C 0 3 [(1, .int 3), (0, .ref h0)] dX3_init_92 rfl rfl (by decide) (by decide) rfl ?_
  refine g_goto 72 C dX3_init_95 (by decide) ?_
  refine g_iload_n 73 C dX3_init_72 rfl rfl rfl ?_
  refine g_iconst 74 C 5 dX3_init_73 rfl (by decide) ?_
  refine g_icmp_ge 77 98 C dX3_init_74 (by decide) rfl (T := none) (E := some ()) (v := ()) (by decide) (fun h => by cases h) (fun _ => ?_)
  refine g_aload_n 78 C dX3_init_77 rfl rfl rfl ?_
  refine g_get 81 C (own := RX3) (C1 := RX3) (T := TX3) 0 1 (.ref q1) kiX3_init_wX3 kiX3_init_f15 rfl dX3_init_78 rfl rfl rfl (by decide) rfl ?_
  refine g_iload_n 82 C dX3_init_81 rfl rfl rfl ?_
  refine g_bipush 84 C 10 dX3_init_82 rfl (by decide) ?_
  refine g_iast 85 C (w2 := ((([(h0, .inr (5, [.int 0, .ref q1, .ref q2, .ref q3, .ref q4, .ref (u1 0), .ref (u2 0), .ref (u3 0)])), (q1, .inl (Y 0, 5, .inl (upd (upd (upd (upd (fun _ => 0) 0 10) 1 10) 2 10) 3 10))), (q2, .inl (Y 0, 5, .inl (fun _ => 0))), (q3, .inl (Y 0, 5, .inl (upd (upd (upd (fun _ => 0) 0 2) 1 2) 2 2))), (q4, .inl (Y 0, 5, .inl (fun _ => 0)))] ++ ww_X6 Y u1 iX6) ++ ww_X1 Y u2 iX1) ++ ww_X0 Y u3 iX0)) 1 dX3_init_84 rfl rfl (by decide) rfl ?_
  refine g_aload_n 86 C dX3_init_85 rfl rfl rfl ?_
  refine g_get 89 C (own := RX3) (C1 := RX3) (T := TX3) 0 3 (.ref q3) kiX3_init_wX3 kiX3_init_f22 rfl dX3_init_86 rfl rfl rfl (by decide) rfl ?_
  refine g_iload_n 90 C dX3_init_89 rfl rfl rfl ?_
  refine g_iconst 91 C 2 dX3_init_90 rfl (by decide) ?_
  refine g_iast 92 C (w2 := ((([(h0, .inr (5, [.int 0, .ref q1, .ref q2, .ref q3, .ref q4, .ref (u1 0), .ref (u2 0), .ref (u3 0)])), (q1, .inl (Y 0, 5, .inl (upd (upd (upd (upd (fun _ => 0) 0 10) 1 10) 2 10) 3 10))), (q2, .inl (Y 0, 5, .inl (fun _ => 0))), (q3, .inl (Y 0, 5, .inl (upd (upd (upd (upd (fun _ => 0) 0 2) 1 2) 2 2) 3 2))), (q4, .inl (Y 0, 5, .inl (fun _ => 0)))] ++ ww_X6 Y u1 iX6) ++ ww_X1 Y u2 iX1) ++ ww_X0 Y u3 iX0)) 3 dX3_init_91 rfl rfl (by decide) rfl ?_
  refine g_iinc 95 C 0 4 [(1, .int 4), (0, .ref h0)] dX3_init_92 rfl rfl (by decide) (by decide) rfl ?_
  refine g_goto 72 C dX3_init_95 (by decide) ?_
  refine g_iload_n 73 C dX3_init_72 rfl rfl rfl ?_
  refine g_iconst 74 C 5 dX3_init_73 rfl (by decide) ?_
  refine g_icmp_ge 77 98 C dX3_init_74 (by decide) rfl (T := none) (E := some ()) (v := ()) (by decide) (fun h => by cases h) (fun _ => ?_)
  refine g_aload_n 78 C dX3_init_77 rfl rfl rfl ?_
  refine g_get 81 C (own := RX3) (C1 := RX3) (T := TX3) 0 1 (.ref q1) kiX3_init_wX3 kiX3_init_f15 rfl dX3_init_78 rfl rfl rfl (by decide) rfl ?_
  refine g_iload_n 82 C dX3_init_81 rfl rfl rfl ?_
  refine g_bipush 84 C 10 dX3_init_82 rfl (by decide) ?_
  refine g_iast 85 C (w2 := ((([(h0, .inr (5, [.int 0, .ref q1, .ref q2, .ref q3, .ref q4, .ref (u1 0), .ref (u2 0), .ref (u3 0)])), (q1, .inl (Y 0, 5, .inl (upd (upd (upd (upd (upd (fun _ => 0) 0 10) 1 10) 2 10) 3 10) 4 10))), (q2, .inl (Y 0, 5, .inl (fun _ => 0))), (q3, .inl (Y 0, 5, .inl (upd (upd (upd (upd (fun _ => 0) 0 2) 1 2) 2 2) 3 2))), (q4, .inl (Y 0, 5, .inl (fun _ => 0)))] ++ ww_X6 Y u1 iX6) ++ ww_X1 Y u2 iX1) ++ ww_X0 Y u3 iX0)) 1 dX3_init_84 rfl rfl (by decide) rfl ?_
  refine g_aload_n 86 C dX3_init_85 rfl rfl rfl ?_
  refine g_get 89 C (own := RX3) (C1 := RX3) (T := TX3) 0 3 (.ref q3) kiX3_init_wX3 kiX3_init_f22 rfl dX3_init_86 rfl rfl rfl (by decide) rfl ?_
  refine g_iload_n 90 C dX3_init_89 rfl rfl rfl ?_
  refine g_iconst 91 C 2 dX3_init_90 rfl (by decide) ?_
  refine g_iast 92 C (w2 := ((([(h0, .inr (5, [.int 0, .ref q1, .ref q2, .ref q3, .ref q4, .ref (u1 0), .ref (u2 0), .ref (u3 0)])), (q1, .inl (Y 0, 5, .inl (upd (upd (upd (upd (upd (fun _ => 0) 0 10) 1 10) 2 10) 3 10) 4 10))), (q2, .inl (Y 0, 5, .inl (fun _ => 0))), (q3, .inl (Y 0, 5, .inl (upd (upd (upd (upd (upd (fun _ => 0) 0 2) 1 2) 2 2) 3 2) 4 2))), (q4, .inl (Y 0, 5, .inl (fun _ => 0)))] ++ ww_X6 Y u1 iX6) ++ ww_X1 Y u2 iX1) ++ ww_X0 Y u3 iX0)) 3 dX3_init_91 rfl rfl (by decide) rfl ?_
  refine g_iinc 95 C 0 5 [(1, .int 5), (0, .ref h0)] dX3_init_92 rfl rfl (by decide) (by decide) rfl ?_
  refine g_goto 72 C dX3_init_95 (by decide) ?_
  refine g_iload_n 73 C dX3_init_72 rfl rfl rfl ?_
  refine g_iconst 74 C 5 dX3_init_73 rfl (by decide) ?_
  refine g_icmp_ge 77 98 C dX3_init_74 (by decide) rfl (T := some ()) (E := none) (v := ()) (by decide) (fun _ => ?_) (fun h => by cases h)
  refine g_widen 12 68 (Nat.le_of_ble_eq_true rfl) (Nat.le_of_ble_eq_true rfl) ?_
  exact g_vretX (fun k => match k with | 0 => h0 | 1 => q1 | 2 => q2 | 3 => q3 | 4 => q4 | 5 => u1 0 | 6 => u1 1 | 7 => u1 2 | 8 => u2 0 | 9 => u2 1 | 10 => u2 2 | 11 => u2 3 | _ => u3 0) C hr hQ hsz dX3_init_98 rfl rfl
set_option maxHeartbeats 8000000 in
set_option maxRecDepth 100000 in
theorem c_J5_init (l : Launch) {D : va_G} {Y : Nat → ClassId} {Z : (Nat → Prop) → State → Heap → Prop} (hZ : sg_Zok Z) {jK jV jT : Nat → Nat} (hJ : sg_ZJ Z jK jV jT) {h0 : Nat} : sg_XV l yJ5_init_d00df wsJ5_init_d00df 1 12 1 16 D Y Z [.ref h0, .int 16] [(h0, .inr (1, [.null, .int 0, .int 0, .int 0]))] (fun u : Nat → Nat => u 0 = h0) (fun u => ww_J4 Y u iJ4) := by
  intro sz
  refine sg_enterX (own := RJ5) (maxL := 2) (ret := none) (cc := cJ5_init_d00df) (by decide +kernel) rfl rfl (Nat.le_of_ble_eq_true rfl) hZ ?_
  intro p e s m args below meth c C hr hnm Q hQ hsz
  have hnm : meth.name = "<init>" := hnm
  refine g_lv (lv2 := [(0, .ref h0), (1, .int 16)]) [0, 1] rfl ?_
  refine g_aload_n 1 C dJ5_init_d00df_0 rfl rfl rfl ?_
  refine g_objInit 4 C kiJ5_init_d00df_ol kiJ5_init_d00df_oi kiJ5_init_d00df_oc (Nat.le_of_ble_eq_true rfl) (Nat.le_of_ble_eq_true rfl) dJ5_init_d00df_1 rfl ?_
  refine g_getsW 7 C (hJ _ _ _ C.2.2.2.2.2.2.2.2.1).1 kiJ5_init_d00df_f18 rfl dJ5_init_d00df_4 rfl ?_
  refine g_if_eq 10 25 C dJ5_init_d00df_7 (by decide) rfl (T := none) (E := some ()) (v := ()) (by decide) (fun h => by cases h) (fun _ => ?_)
  refine g_aload_n 11 C dJ5_init_d00df_10 rfl rfl rfl ?_
  refine g_iload_n 12 C dJ5_init_d00df_11 rfl rfl rfl ?_
  refine g_newaB 14 C (N' := 16) kiJ5_init_d00df_ab (by decide) rfl (Nat.le_of_ble_eq_true rfl) (Nat.le_of_ble_eq_true rfl) (Nat.le_of_ble_eq_true rfl) dJ5_init_d00df_12 rfl (fun q1 => ?_)
  refine g_put 17 C (own := RJ5) (C1 := RJ4) (T := TJ4) (w2 := [(h0, .inr (1, [.ref q1, .int 0, .int 0, .int 0])), (q1, .inl (Y 1, 16, .inl (fun _ => 0)))]) 0 0 tyJ4 tyJ4_ok nmJ4 kiJ5_init_d00df_wJ4 kiJ5_init_d00df_f15 rfl rfl (ty := (.array .byte)) (by decide) rfl rfl (sg_blt rfl) dJ5_init_d00df_14 rfl rfl rfl (by decide) rfl ?_
  refine g_aload_n 18 C dJ5_init_d00df_17 rfl rfl rfl ?_
  refine g_iconst 19 C 0 dJ5_init_d00df_18 rfl (by decide) ?_
  refine g_put 22 C (own := RJ5) (C1 := RJ4) (T := TJ4) (w2 := [(h0, .inr (1, [.ref q1, .int 0, .int 0, .int 0])), (q1, .inl (Y 1, 16, .inl (fun _ => 0)))]) 0 1 tyJ4 tyJ4_ok nmJ4 kiJ5_init_d00df_wJ4 kiJ5_init_d00df_f22 rfl rfl (ty := .byte) (by decide) rfl rfl (sg_blt rfl) dJ5_init_d00df_19 rfl rfl rfl (by decide) rfl ?_
  refine g_goto 38 C dJ5_init_d00df_22 (by decide) ?_
  refine g_widen 1 16 (Nat.le_of_ble_eq_true rfl) (Nat.le_of_ble_eq_true rfl) ?_
  exact g_vretX (fun k => match k with | 0 => h0 | _ => q1) C hr hQ hsz dJ5_init_d00df_38 rfl rfl
set_option maxHeartbeats 8000000 in
set_option maxRecDepth 100000 in
theorem c_J4_init (l : Launch) {D : va_G} {Y : Nat → ClassId} {Z : (Nat → Prop) → State → Heap → Prop} (hZ : sg_Zok Z) {jK jV jT : Nat → Nat} (hJ : sg_ZJ Z jK jV jT) {h0 : Nat} : sg_XV l yJ4_init_da8c8 wsJ4_init_da8c8 2 33 1 16 D Y Z [.ref h0] [(h0, .inr (1, [.null, .int 0, .int 0, .int 0]))] (fun u : Nat → Nat => u 0 = h0) (fun u => ww_J4 Y u iJ4) := by
  intro sz
  refine sg_enterX (own := RJ4) (maxL := 1) (ret := none) (cc := cJ4_init_da8c8) (by decide +kernel) rfl rfl (Nat.le_of_ble_eq_true rfl) hZ ?_
  intro p e s m args below meth c C hr hnm Q hQ hsz
  have hnm : meth.name = "<init>" := hnm
  refine g_lv (lv2 := [(0, .ref h0)]) [0] rfl ?_
  refine g_aload_n 1 C dJ4_init_da8c8_0 rfl rfl rfl ?_
  refine g_bipush 3 C 16 dJ4_init_da8c8_1 rfl (by decide) ?_
  refine g_XIv 6 C (ret := none) (As := [.int 16]) (n0 := 1) (st := []) (c_J5_init l hZ hJ (h0 := h0)) gJ4_init_da8c8_J5_init_d00df kiJ4_init_da8c8_itJ5 kiJ4_init_da8c8_ml1 kiJ4_init_da8c8_imJ5 rfl ⟨by decide, by decide, by decide +kernel⟩ rfl ⟨(Nat.le_of_ble_eq_true rfl), (Nat.le_of_ble_eq_true rfl)⟩ sg_cutAllX rfl (Nat.le_of_ble_eq_true rfl) ⟨(Nat.le_of_ble_eq_true rfl), (Nat.le_of_ble_eq_true rfl)⟩ dJ4_init_da8c8_3 rfl rfl (fun u1 hu1 => ?_)
  have hu1 : u1 0 = h0 := hu1
  refine g_widen 1 16 (Nat.le_of_ble_eq_true rfl) (Nat.le_of_ble_eq_true rfl) ?_
  exact g_vretX (u1) C hr hQ hsz dJ4_init_da8c8_6 hu1 rfl
set_option maxHeartbeats 8000000 in
set_option maxRecDepth 100000 in
theorem c_X2_init (l : Launch) {D : va_G} {Y : Nat → ClassId} {Z : (Nat → Prop) → State → Heap → Prop} (hZ : sg_Zok Z) (hZN : sg_ZN Z) {h0 : Nat} : sg_XV l yX2_init wsX2_init 3 53 105 616 D Y Z [.ref h0] [(h0, .inr (4, [.int 0, .int 0, .null]))] (fun u : Nat → Nat => u 0 = h0) (fun u => ww_X2 Y u iX2) := by
  intro sz
  refine sg_enterX (own := RX2) (maxL := 2) (ret := none) (cc := cX2_init) (by decide +kernel) rfl rfl (Nat.le_of_ble_eq_true rfl) hZ ?_
  intro p e s m args below meth c C hr hnm Q hQ hsz
  have hnm : meth.name = "<init>" := hnm
  refine g_lv (lv2 := [(0, .ref h0)]) [0] rfl ?_
  refine g_aload_n 1 C dX2_init_0 rfl rfl rfl ?_
  refine g_objInit 4 C kiX2_init_ol kiX2_init_oi kiX2_init_oc (Nat.le_of_ble_eq_true rfl) (Nat.le_of_ble_eq_true rfl) dX2_init_1 rfl ?_
  refine g_aload_n 5 C dX2_init_4 rfl rfl rfl ?_
  refine g_iconst 6 C 0 dX2_init_5 rfl (by decide) ?_
  refine g_put 9 C (own := RX2) (C1 := RX2) (T := TX2) (w2 := [(h0, .inr (4, [.int 0, .int 0, .null]))]) 0 0 tyX2 tyX2_ok nmX2 kiX2_init_wX2 kiX2_init_f9 rfl rfl (ty := .int) (by decide) rfl rfl (sg_blt rfl) dX2_init_6 rfl rfl rfl (by decide) rfl ?_
  refine g_aload_n 10 C dX2_init_9 rfl rfl rfl ?_
  refine g_iconst 11 C 0 dX2_init_10 rfl (by decide) ?_
  refine g_put 14 C (own := RX2) (C1 := RX2) (T := TX2) (w2 := [(h0, .inr (4, [.int 0, .int 0, .null]))]) 0 1 tyX2 tyX2_ok nmX2 kiX2_init_wX2 kiX2_init_f15 rfl rfl (ty := .int) (by decide) rfl rfl (sg_blt rfl) dX2_init_11 rfl rfl rfl (by decide) rfl ?_
  refine g_aload_n 15 C dX2_init_14 rfl rfl rfl ?_
  refine g_bipush 17 C 8 dX2_init_15 rfl (by decide) ?_
  refine g_newq 20 C hZN 8 kiX2_init_cl18 (by decide) rfl (Nat.le_of_ble_eq_true rfl) (Nat.le_of_ble_eq_true rfl) (Nat.le_of_ble_eq_true rfl) dX2_init_17 rfl (fun q1 => ?_)
  refine g_putF 23 C (own := RX2) (C1 := RX2) (T := TX2) (w2 := [(h0, .inr (4, [.int 0, .int 0, .ref q1])), (q1, .inl (Y 2, 8, .inr (.inr (.inr (.inr (fun _ => none))))))]) 0 2 tyX2 tyX2_ok nmX2 kiX2_init_wX2 kiX2_init_f20 rfl rfl hnm rfl (ty := (.array (.object "WeatherMinistry$Realm"))) (by decide) rfl rfl (sg_blt rfl) dX2_init_20 rfl rfl rfl (by decide) rfl ?_
  refine g_iconst 24 C 0 dX2_init_23 rfl (by decide) ?_
  refine g_istore_n 25 C [(1, .int 0), (0, .ref h0)] dX2_init_24 rfl rfl (by decide) rfl ?_
  refine g_iload_n 26 C dX2_init_25 rfl rfl rfl ?_
  refine g_bipush 28 C 8 dX2_init_26 rfl (by decide) ?_
  refine g_icmp_ge 31 50 C dX2_init_28 (by decide) rfl (T := none) (E := some ()) (v := ()) (by decide) (fun h => by cases h) (fun _ => ?_)
  refine g_aload_n 32 C dX2_init_31 rfl rfl rfl ?_
  refine g_get 35 C (own := RX2) (C1 := RX2) (T := TX2) 0 2 (.ref q1) kiX2_init_wX2 kiX2_init_f20 rfl dX2_init_32 rfl rfl rfl (by decide) rfl ?_
  refine g_iload_n 36 C dX2_init_35 rfl rfl rfl ?_
  refine g_new 39 C (C1 := RX3) (T := TX3) (N := 8) (ci := 5) [.int 0, .null, .null, .null, .null, .null, .null, .null] tyX3 tyX3_ok kiX2_init_wX3 kiX2_init_cl18 kiX2_init_inX3 kiX2_init_itX3 rfl (by decide +kernel) (Nat.le_of_ble_eq_true rfl) (Nat.le_of_ble_eq_true rfl) dX2_init_36 rfl (fun q2 => ?_)
  refine g_dup 40 C dX2_init_39 rfl rfl ?_
  refine g_XIv 43 C (ret := none) (As := []) (n0 := 0) (st := [.ref q2, .int 0, .ref q1]) (c_X3_init l hZ hZN (h0 := q2)) gX2_init_X3_init kiX2_init_itX3 kiX2_init_ml24 kiX2_init_imX3 rfl ⟨by decide, by decide, by decide +kernel⟩ rfl ⟨(Nat.le_of_ble_eq_true rfl), (Nat.le_of_ble_eq_true rfl)⟩ sg_cutEnd rfl (Nat.le_of_ble_eq_true rfl) ⟨(Nat.le_of_ble_eq_true rfl), (Nat.le_of_ble_eq_true rfl)⟩ dX2_init_40 rfl rfl (fun u1 hu1 => ?_)
  have hu1 : u1 0 = q2 := hu1
  subst hu1
  refine g_aast 44 C (w2 := ([(h0, .inr (4, [.int 0, .int 0, .ref q1])), (q1, .inl (Y 2, 8, .inr (.inr (.inr (.inr (va_up (fun _ => none) 0 (some (u1 0))))))))] ++ ww_X3 Y u1 iX3)) 1 2 dX2_init_43 rfl rfl rfl (by decide) rfl ?_
  refine g_iinc 47 C 0 1 [(1, .int 1), (0, .ref h0)] dX2_init_44 rfl rfl (by decide) (by decide) rfl ?_
  refine g_goto 25 C dX2_init_47 (by decide) ?_
  refine g_iload_n 26 C dX2_init_25 rfl rfl rfl ?_
  refine g_bipush 28 C 8 dX2_init_26 rfl (by decide) ?_
  refine g_icmp_ge 31 50 C dX2_init_28 (by decide) rfl (T := none) (E := some ()) (v := ()) (by decide) (fun h => by cases h) (fun _ => ?_)
  refine g_aload_n 32 C dX2_init_31 rfl rfl rfl ?_
  refine g_get 35 C (own := RX2) (C1 := RX2) (T := TX2) 0 2 (.ref q1) kiX2_init_wX2 kiX2_init_f20 rfl dX2_init_32 rfl rfl rfl (by decide) rfl ?_
  refine g_iload_n 36 C dX2_init_35 rfl rfl rfl ?_
  refine g_new 39 C (C1 := RX3) (T := TX3) (N := 8) (ci := 5) [.int 0, .null, .null, .null, .null, .null, .null, .null] tyX3 tyX3_ok kiX2_init_wX3 kiX2_init_cl18 kiX2_init_inX3 kiX2_init_itX3 rfl (by decide +kernel) (Nat.le_of_ble_eq_true rfl) (Nat.le_of_ble_eq_true rfl) dX2_init_36 rfl (fun q3 => ?_)
  refine g_dup 40 C dX2_init_39 rfl rfl ?_
  refine g_XIv 43 C (ret := none) (As := []) (n0 := 0) (st := [.ref q3, .int 1, .ref q1]) (c_X3_init l hZ hZN (h0 := q3)) gX2_init_X3_init kiX2_init_itX3 kiX2_init_ml24 kiX2_init_imX3 rfl ⟨by decide, by decide, by decide +kernel⟩ rfl ⟨(Nat.le_of_ble_eq_true rfl), (Nat.le_of_ble_eq_true rfl)⟩ sg_cutEnd rfl (Nat.le_of_ble_eq_true rfl) ⟨(Nat.le_of_ble_eq_true rfl), (Nat.le_of_ble_eq_true rfl)⟩ dX2_init_40 rfl rfl (fun u2 hu2 => ?_)
  have hu2 : u2 0 = q3 := hu2
  subst hu2
  refine g_aast 44 C (w2 := (([(h0, .inr (4, [.int 0, .int 0, .ref q1])), (q1, .inl (Y 2, 8, .inr (.inr (.inr (.inr (va_up (va_up (fun _ => none) 0 (some (u1 0))) 1 (some (u2 0))))))))] ++ ww_X3 Y u1 iX3) ++ ww_X3 Y u2 iX3)) 1 15 dX2_init_43 rfl rfl rfl (by decide) rfl ?_
  refine g_iinc 47 C 0 2 [(1, .int 2), (0, .ref h0)] dX2_init_44 rfl rfl (by decide) (by decide) rfl ?_
  refine g_goto 25 C dX2_init_47 (by decide) ?_
  refine g_iload_n 26 C dX2_init_25 rfl rfl rfl ?_
  refine g_bipush 28 C 8 dX2_init_26 rfl (by decide) ?_
  refine g_icmp_ge 31 50 C dX2_init_28 (by decide) rfl (T := none) (E := some ()) (v := ()) (by decide) (fun h => by cases h) (fun _ => ?_)
  refine g_aload_n 32 C dX2_init_31 rfl rfl rfl ?_
  refine g_get 35 C (own := RX2) (C1 := RX2) (T := TX2) 0 2 (.ref q1) kiX2_init_wX2 kiX2_init_f20 rfl dX2_init_32 rfl rfl rfl (by decide) rfl ?_
  refine g_iload_n 36 C dX2_init_35 rfl rfl rfl ?_
  refine g_new 39 C (C1 := RX3) (T := TX3) (N := 8) (ci := 5) [.int 0, .null, .null, .null, .null, .null, .null, .null] tyX3 tyX3_ok kiX2_init_wX3 kiX2_init_cl18 kiX2_init_inX3 kiX2_init_itX3 rfl (by decide +kernel) (Nat.le_of_ble_eq_true rfl) (Nat.le_of_ble_eq_true rfl) dX2_init_36 rfl (fun q4 => ?_)
  refine g_dup 40 C dX2_init_39 rfl rfl ?_
  refine g_XIv 43 C (ret := none) (As := []) (n0 := 0) (st := [.ref q4, .int 2, .ref q1]) (c_X3_init l hZ hZN (h0 := q4)) gX2_init_X3_init kiX2_init_itX3 kiX2_init_ml24 kiX2_init_imX3 rfl ⟨by decide, by decide, by decide +kernel⟩ rfl ⟨(Nat.le_of_ble_eq_true rfl), (Nat.le_of_ble_eq_true rfl)⟩ sg_cutEnd rfl (Nat.le_of_ble_eq_true rfl) ⟨(Nat.le_of_ble_eq_true rfl), (Nat.le_of_ble_eq_true rfl)⟩ dX2_init_40 rfl rfl (fun u3 hu3 => ?_)
  have hu3 : u3 0 = q4 := hu3
  subst hu3
  refine g_aast 44 C (w2 := ((([(h0, .inr (4, [.int 0, .int 0, .ref q1])), (q1, .inl (Y 2, 8, .inr (.inr (.inr (.inr (va_up (va_up (va_up (fun _ => none) 0 (some (u1 0))) 1 (some (u2 0))) 2 (some (u3 0))))))))] ++ ww_X3 Y u1 iX3) ++ ww_X3 Y u2 iX3) ++ ww_X3 Y u3 iX3)) 1 28 dX2_init_43 rfl rfl rfl (by decide) rfl ?_
  refine g_iinc 47 C 0 3 [(1, .int 3), (0, .ref h0)] dX2_init_44 rfl rfl (by decide) (by decide) rfl ?_
  refine g_goto 25 C dX2_init_47 (by decide) ?_
  refine g_iload_n 26 C dX2_init_25 rfl rfl rfl ?_
  refine g_bipush 28 C 8 dX2_init_26 rfl (by decide) ?_
  refine g_icmp_ge 31 50 C dX2_init_28 (by decide) rfl (T := none) (E := some ()) (v := ()) (by decide) (fun h => by cases h) (fun _ => ?_)
  refine g_aload_n 32 C dX2_init_31 rfl rfl rfl ?_
  refine g_get 35 C (own := RX2) (C1 := RX2) (T := TX2) 0 2 (.ref q1) kiX2_init_wX2 kiX2_init_f20 rfl dX2_init_32 rfl rfl rfl (by decide) rfl ?_
  refine g_iload_n 36 C dX2_init_35 rfl rfl rfl ?_
  refine g_new 39 C (C1 := RX3) (T := TX3) (N := 8) (ci := 5) [.int 0, .null, .null, .null, .null, .null, .null, .null] tyX3 tyX3_ok kiX2_init_wX3 kiX2_init_cl18 kiX2_init_inX3 kiX2_init_itX3 rfl (by decide +kernel) (Nat.le_of_ble_eq_true rfl) (Nat.le_of_ble_eq_true rfl) dX2_init_36 rfl (fun q5 => ?_)
  refine g_dup 40 C dX2_init_39 rfl rfl ?_
  refine g_XIv 43 C (ret := none) (As := []) (n0 := 0) (st := [.ref q5, .int 3, .ref q1]) (c_X3_init l hZ hZN (h0 := q5)) gX2_init_X3_init kiX2_init_itX3 kiX2_init_ml24 kiX2_init_imX3 rfl ⟨by decide, by decide, by decide +kernel⟩ rfl ⟨(Nat.le_of_ble_eq_true rfl), (Nat.le_of_ble_eq_true rfl)⟩ sg_cutEnd rfl (Nat.le_of_ble_eq_true rfl) ⟨(Nat.le_of_ble_eq_true rfl), (Nat.le_of_ble_eq_true rfl)⟩ dX2_init_40 rfl rfl (fun u4 hu4 => ?_)
  have hu4 : u4 0 = q5 := hu4
  subst hu4
  refine g_aast 44 C (w2 := (((([(h0, .inr (4, [.int 0, .int 0, .ref q1])), (q1, .inl (Y 2, 8, .inr (.inr (.inr (.inr (va_up (va_up (va_up (va_up (fun _ => none) 0 (some (u1 0))) 1 (some (u2 0))) 2 (some (u3 0))) 3 (some (u4 0))))))))] ++ ww_X3 Y u1 iX3) ++ ww_X3 Y u2 iX3) ++ ww_X3 Y u3 iX3) ++ ww_X3 Y u4 iX3)) 1 41 dX2_init_43 rfl rfl rfl (by decide) rfl ?_
  refine g_iinc 47 C 0 4 [(1, .int 4), (0, .ref h0)] dX2_init_44 rfl rfl (by decide) (by decide) rfl ?_
  refine g_goto 25 C dX2_init_47 (by decide) ?_
  refine g_iload_n 26 C dX2_init_25 rfl rfl rfl ?_
  refine g_bipush 28 C 8 dX2_init_26 rfl (by decide) ?_
  refine g_icmp_ge 31 50 C dX2_init_28 (by decide) rfl (T := none) (E := some ()) (v := ()) (by decide) (fun h => by cases h) (fun _ => ?_)
  refine g_aload_n 32 C dX2_init_31 rfl rfl rfl ?_
  refine g_get 35 C (own := RX2) (C1 := RX2) (T := TX2) 0 2 (.ref q1) kiX2_init_wX2 kiX2_init_f20 rfl dX2_init_32 rfl rfl rfl (by decide) rfl ?_
  refine g_iload_n 36 C dX2_init_35 rfl rfl rfl ?_
  refine g_new 39 C (C1 := RX3) (T := TX3) (N := 8) (ci := 5) [.int 0, .null, .null, .null, .null, .null, .null, .null] tyX3 tyX3_ok kiX2_init_wX3 kiX2_init_cl18 kiX2_init_inX3 kiX2_init_itX3 rfl (by decide +kernel) (Nat.le_of_ble_eq_true rfl) (Nat.le_of_ble_eq_true rfl) dX2_init_36 rfl (fun q6 => ?_)
  refine g_dup 40 C dX2_init_39 rfl rfl ?_
  refine g_XIv 43 C (ret := none) (As := []) (n0 := 0) (st := [.ref q6, .int 4, .ref q1]) (c_X3_init l hZ hZN (h0 := q6)) gX2_init_X3_init kiX2_init_itX3 kiX2_init_ml24 kiX2_init_imX3 rfl ⟨by decide, by decide, by decide +kernel⟩ rfl ⟨(Nat.le_of_ble_eq_true rfl), (Nat.le_of_ble_eq_true rfl)⟩ sg_cutEnd rfl (Nat.le_of_ble_eq_true rfl) ⟨(Nat.le_of_ble_eq_true rfl), (Nat.le_of_ble_eq_true rfl)⟩ dX2_init_40 rfl rfl (fun u5 hu5 => ?_)
  have hu5 : u5 0 = q6 := hu5
  subst hu5
  refine g_aast 44 C (w2 := ((((([(h0, .inr (4, [.int 0, .int 0, .ref q1])), (q1, .inl (Y 2, 8, .inr (.inr (.inr (.inr (va_up (va_up (va_up (va_up (va_up (fun _ => none) 0 (some (u1 0))) 1 (some (u2 0))) 2 (some (u3 0))) 3 (some (u4 0))) 4 (some (u5 0))))))))] ++ ww_X3 Y u1 iX3) ++ ww_X3 Y u2 iX3) ++ ww_X3 Y u3 iX3) ++ ww_X3 Y u4 iX3) ++ ww_X3 Y u5 iX3)) 1 54 dX2_init_43 rfl rfl rfl (by decide) rfl ?_
  refine g_iinc 47 C 0 5 [(1, .int 5), (0, .ref h0)] dX2_init_44 rfl rfl (by decide) (by decide) rfl ?_
  refine g_goto 25 C dX2_init_47 (by decide) ?_
  refine g_iload_n 26 C dX2_init_25 rfl rfl rfl ?_
  refine g_bipush 28 C 8 dX2_init_26 rfl (by decide) ?_
  refine g_icmp_ge 31 50 C dX2_init_28 (by decide) rfl (T := none) (E := some ()) (v := ()) (by decide) (fun h => by cases h) (fun _ => ?_)
  refine g_aload_n 32 C dX2_init_31 rfl rfl rfl ?_
  refine g_get 35 C (own := RX2) (C1 := RX2) (T := TX2) 0 2 (.ref q1) kiX2_init_wX2 kiX2_init_f20 rfl dX2_init_32 rfl rfl rfl (by decide) rfl ?_
  refine g_iload_n 36 C dX2_init_35 rfl rfl rfl ?_
  refine g_new 39 C (C1 := RX3) (T := TX3) (N := 8) (ci := 5) [.int 0, .null, .null, .null, .null, .null, .null, .null] tyX3 tyX3_ok kiX2_init_wX3 kiX2_init_cl18 kiX2_init_inX3 kiX2_init_itX3 rfl (by decide +kernel) (Nat.le_of_ble_eq_true rfl) (Nat.le_of_ble_eq_true rfl) dX2_init_36 rfl (fun q7 => ?_)
  refine g_dup 40 C dX2_init_39 rfl rfl ?_
  refine g_XIv 43 C (ret := none) (As := []) (n0 := 0) (st := [.ref q7, .int 5, .ref q1]) (c_X3_init l hZ hZN (h0 := q7)) gX2_init_X3_init kiX2_init_itX3 kiX2_init_ml24 kiX2_init_imX3 rfl ⟨by decide, by decide, by decide +kernel⟩ rfl ⟨(Nat.le_of_ble_eq_true rfl), (Nat.le_of_ble_eq_true rfl)⟩ sg_cutEnd rfl (Nat.le_of_ble_eq_true rfl) ⟨(Nat.le_of_ble_eq_true rfl), (Nat.le_of_ble_eq_true rfl)⟩ dX2_init_40 rfl rfl (fun u6 hu6 => ?_)
  have hu6 : u6 0 = q7 := hu6
  subst hu6
  refine g_aast 44 C (w2 := (((((([(h0, .inr (4, [.int 0, .int 0, .ref q1])), (q1, .inl (Y 2, 8, .inr (.inr (.inr (.inr (va_up (va_up (va_up (va_up (va_up (va_up (fun _ => none) 0 (some (u1 0))) 1 (some (u2 0))) 2 (some (u3 0))) 3 (some (u4 0))) 4 (some (u5 0))) 5 (some (u6 0))))))))] ++ ww_X3 Y u1 iX3) ++ ww_X3 Y u2 iX3) ++ ww_X3 Y u3 iX3) ++ ww_X3 Y u4 iX3) ++ ww_X3 Y u5 iX3) ++ ww_X3 Y u6 iX3)) 1 67 dX2_init_43 rfl rfl rfl (by decide) rfl ?_
  refine g_iinc 47 C 0 6 [(1, .int 6), (0, .ref h0)] dX2_init_44 rfl rfl (by decide) (by decide) rfl ?_
  refine g_goto 25 C dX2_init_47 (by decide) ?_
  refine g_iload_n 26 C dX2_init_25 rfl rfl rfl ?_
  refine g_bipush 28 C 8 dX2_init_26 rfl (by decide) ?_
  refine g_icmp_ge 31 50 C dX2_init_28 (by decide) rfl (T := none) (E := some ()) (v := ()) (by decide) (fun h => by cases h) (fun _ => ?_)
  refine g_aload_n 32 C dX2_init_31 rfl rfl rfl ?_
  refine g_get 35 C (own := RX2) (C1 := RX2) (T := TX2) 0 2 (.ref q1) kiX2_init_wX2 kiX2_init_f20 rfl dX2_init_32 rfl rfl rfl (by decide) rfl ?_
  refine g_iload_n 36 C dX2_init_35 rfl rfl rfl ?_
  refine g_new 39 C (C1 := RX3) (T := TX3) (N := 8) (ci := 5) [.int 0, .null, .null, .null, .null, .null, .null, .null] tyX3 tyX3_ok kiX2_init_wX3 kiX2_init_cl18 kiX2_init_inX3 kiX2_init_itX3 rfl (by decide +kernel) (Nat.le_of_ble_eq_true rfl) (Nat.le_of_ble_eq_true rfl) dX2_init_36 rfl (fun q8 => ?_)
  refine g_dup 40 C dX2_init_39 rfl rfl ?_
  refine g_XIv 43 C (ret := none) (As := []) (n0 := 0) (st := [.ref q8, .int 6, .ref q1]) (c_X3_init l hZ hZN (h0 := q8)) gX2_init_X3_init kiX2_init_itX3 kiX2_init_ml24 kiX2_init_imX3 rfl ⟨by decide, by decide, by decide +kernel⟩ rfl ⟨(Nat.le_of_ble_eq_true rfl), (Nat.le_of_ble_eq_true rfl)⟩ sg_cutEnd rfl (Nat.le_of_ble_eq_true rfl) ⟨(Nat.le_of_ble_eq_true rfl), (Nat.le_of_ble_eq_true rfl)⟩ dX2_init_40 rfl rfl (fun u7 hu7 => ?_)
  have hu7 : u7 0 = q8 := hu7
  subst hu7
  refine g_aast 44 C (w2 := ((((((([(h0, .inr (4, [.int 0, .int 0, .ref q1])), (q1, .inl (Y 2, 8, .inr (.inr (.inr (.inr (va_up (va_up (va_up (va_up (va_up (va_up (va_up (fun _ => none) 0 (some (u1 0))) 1 (some (u2 0))) 2 (some (u3 0))) 3 (some (u4 0))) 4 (some (u5 0))) 5 (some (u6 0))) 6 (some (u7 0))))))))] ++ ww_X3 Y u1 iX3) ++ ww_X3 Y u2 iX3) ++ ww_X3 Y u3 iX3) ++ ww_X3 Y u4 iX3) ++ ww_X3 Y u5 iX3) ++ ww_X3 Y u6 iX3) ++ ww_X3 Y u7 iX3)) 1 80 dX2_init_43 rfl rfl rfl (by decide) rfl ?_
  refine g_iinc 47 C 0 7 [(1, .int 7), (0, .ref h0)] dX2_init_44 rfl rfl (by decide) (by decide) rfl ?_
  refine g_goto 25 C dX2_init_47 (by decide) ?_
  refine g_iload_n 26 C dX2_init_25 rfl rfl rfl ?_
  refine g_bipush 28 C 8 dX2_init_26 rfl (by decide) ?_
  refine g_icmp_ge 31 50 C dX2_init_28 (by decide) rfl (T := none) (E := some ()) (v := ()) (by decide) (fun h => by cases h) (fun _ => ?_)
  refine g_aload_n 32 C dX2_init_31 rfl rfl rfl ?_
  refine g_get 35 C (own := RX2) (C1 := RX2) (T := TX2) 0 2 (.ref q1) kiX2_init_wX2 kiX2_init_f20 rfl dX2_init_32 rfl rfl rfl (by decide) rfl ?_
  refine g_iload_n 36 C dX2_init_35 rfl rfl rfl ?_
  refine g_new 39 C (C1 := RX3) (T := TX3) (N := 8) (ci := 5) [.int 0, .null, .null, .null, .null, .null, .null, .null] tyX3 tyX3_ok kiX2_init_wX3 kiX2_init_cl18 kiX2_init_inX3 kiX2_init_itX3 rfl (by decide +kernel) (Nat.le_of_ble_eq_true rfl) (Nat.le_of_ble_eq_true rfl) dX2_init_36 rfl (fun q9 => ?_)
  refine g_dup 40 C dX2_init_39 rfl rfl ?_
  refine g_XIv 43 C (ret := none) (As := []) (n0 := 0) (st := [.ref q9, .int 7, .ref q1]) (c_X3_init l hZ hZN (h0 := q9)) gX2_init_X3_init kiX2_init_itX3 kiX2_init_ml24 kiX2_init_imX3 rfl ⟨by decide, by decide, by decide +kernel⟩ rfl ⟨(Nat.le_of_ble_eq_true rfl), (Nat.le_of_ble_eq_true rfl)⟩ sg_cutEnd rfl (Nat.le_of_ble_eq_true rfl) ⟨(Nat.le_of_ble_eq_true rfl), (Nat.le_of_ble_eq_true rfl)⟩ dX2_init_40 rfl rfl (fun u8 hu8 => ?_)
  have hu8 : u8 0 = q9 := hu8
  subst hu8
  refine g_aast 44 C (w2 := (((((((([(h0, .inr (4, [.int 0, .int 0, .ref q1])), (q1, .inl (Y 2, 8, .inr (.inr (.inr (.inr (va_up (va_up (va_up (va_up (va_up (va_up (va_up (va_up (fun _ => none) 0 (some (u1 0))) 1 (some (u2 0))) 2 (some (u3 0))) 3 (some (u4 0))) 4 (some (u5 0))) 5 (some (u6 0))) 6 (some (u7 0))) 7 (some (u8 0))))))))] ++ ww_X3 Y u1 iX3) ++ ww_X3 Y u2 iX3) ++ ww_X3 Y u3 iX3) ++ ww_X3 Y u4 iX3) ++ ww_X3 Y u5 iX3) ++ ww_X3 Y u6 iX3) ++ ww_X3 Y u7 iX3) ++ ww_X3 Y u8 iX3)) 1 93 dX2_init_43 rfl rfl rfl (by decide) rfl ?_
  refine g_iinc 47 C 0 8 [(1, .int 8), (0, .ref h0)] dX2_init_44 rfl rfl (by decide) (by decide) rfl ?_
  refine g_goto 25 C dX2_init_47 (by decide) ?_
  refine g_iload_n 26 C dX2_init_25 rfl rfl rfl ?_
  refine g_bipush 28 C 8 dX2_init_26 rfl (by decide) ?_
  refine g_icmp_ge 31 50 C dX2_init_28 (by decide) rfl (T := some ()) (E := none) (v := ()) (by decide) (fun _ => ?_) (fun h => by cases h)
  refine g_widen 105 616 (Nat.le_of_ble_eq_true rfl) (Nat.le_of_ble_eq_true rfl) ?_
  obtain ⟨u, hu⟩ : ∃ u : Nat → Nat, u = fun k => (cond (Nat.ble k 0) h0 (cond (Nat.ble k 1) q1 (cond (Nat.ble k 14) (u1 (k - 2)) (cond (Nat.ble k 27) (u2 (k - 15)) (cond (Nat.ble k 40) (u3 (k - 28)) (cond (Nat.ble k 53) (u4 (k - 41)) (cond (Nat.ble k 66) (u5 (k - 54)) (cond (Nat.ble k 79) (u6 (k - 67)) (cond (Nat.ble k 92) (u7 (k - 80)) (u8 (k - 93))))))))))) := ⟨_, rfl⟩
  refine g_eqw (w2 := ww_X2 Y u iX2) (by subst hu; exact sg_eqCons (sg_eqRow (fun i hi => by rcases sg_lt8 hi with rfl | rfl | rfl | rfl | rfl | rfl | rfl | rfl <;> rfl))) ?_
  exact g_vretX u C hr hQ hsz dX2_init_50 (by rw [hu]; rfl) rfl
set_option maxHeartbeats 8000000 in
set_option maxRecDepth 100000 in
theorem c_X5_init (l : Launch) {D : va_G} {Y : Nat → ClassId} {Z : (Nat → Prop) → State → Heap → Prop} (hZ : sg_Zok Z) (hZN : sg_ZN Z) {jK jV jT : Nat → Nat} (hJ : sg_ZJ Z jK jV jT) {h0 : Nat} : sg_XV l yX5_init wsX5_init 3 53 16 80 D Y Z [.ref h0] [(h0, .inr (7, [.null, .int 0, .int 0, .null, .null]))] (fun u : Nat → Nat => u 0 = h0) (fun u => ww_X5 Y u iX5) := by
  intro sz
  refine sg_enterX (own := RX5) (maxL := 1) (ret := none) (cc := cX5_init) (by decide +kernel) rfl rfl (Nat.le_of_ble_eq_true rfl) hZ ?_
  intro p e s m args below meth c C hr hnm Q hQ hsz
  have hnm : meth.name = "<init>" := hnm
  refine g_lv (lv2 := [(0, .ref h0)]) [0] rfl ?_
  refine g_aload_n 1 C dX5_init_0 rfl rfl rfl ?_
  refine g_objInit 4 C kiX5_init_ol kiX5_init_oi kiX5_init_oc (Nat.le_of_ble_eq_true rfl) (Nat.le_of_ble_eq_true rfl) dX5_init_1 rfl ?_
  refine g_aload_n 5 C dX5_init_4 rfl rfl rfl ?_
  refine g_new 8 C (C1 := RJ4) (T := TJ4) (N := 4) (ci := 1) [.null, .int 0, .int 0, .int 0] tyJ4 tyJ4_ok kiX5_init_wJ4 kiX5_init_cl9 kiX5_init_inJ4 kiX5_init_itJ4 rfl (by decide +kernel) (Nat.le_of_ble_eq_true rfl) (Nat.le_of_ble_eq_true rfl) dX5_init_5 rfl (fun q1 => ?_)
  refine g_dup 9 C dX5_init_8 rfl rfl ?_
  refine g_XIv 12 C (ret := none) (As := []) (n0 := 0) (st := [.ref q1, .ref h0]) (c_J4_init l hZ hJ (h0 := q1)) gX5_init_J4_init_da8c8 kiX5_init_itJ4 kiX5_init_ml11 kiX5_init_imJ4 rfl ⟨by decide, by decide, by decide +kernel⟩ rfl ⟨(Nat.le_of_ble_eq_true rfl), (Nat.le_of_ble_eq_true rfl)⟩ sg_cutEnd rfl (Nat.le_of_ble_eq_true rfl) ⟨(Nat.le_of_ble_eq_true rfl), (Nat.le_of_ble_eq_true rfl)⟩ dX5_init_9 rfl rfl (fun u1 hu1 => ?_)
  have hu1 : u1 0 = q1 := hu1
  subst hu1
  refine g_putF 15 C (own := RX5) (C1 := RX5) (T := TX5) (w2 := ([(h0, .inr (7, [.ref (u1 0), .int 0, .int 0, .null, .null]))] ++ ww_J4 Y u1 iJ4)) 0 0 tyX5 tyX5_ok nmX5 kiX5_init_wX5 kiX5_init_f12 rfl rfl hnm rfl (ty := (.object "java/lang/StringBuilder")) (by decide) rfl rfl (sg_blt rfl) dX5_init_12 rfl rfl rfl (by decide) rfl ?_
  refine g_aload_n 16 C dX5_init_15 rfl rfl rfl ?_
  refine g_iconst 17 C 0 dX5_init_16 rfl (by decide) ?_
  refine g_put 20 C (own := RX5) (C1 := RX5) (T := TX5) (w2 := ([(h0, .inr (7, [.ref (u1 0), .int 0, .int 0, .null, .null]))] ++ ww_J4 Y u1 iJ4)) 0 1 tyX5 tyX5_ok nmX5 kiX5_init_wX5 kiX5_init_f18 rfl rfl (ty := .int) (by decide) rfl rfl (sg_blt rfl) dX5_init_17 rfl rfl rfl (by decide) rfl ?_
  refine g_aload_n 21 C dX5_init_20 rfl rfl rfl ?_
  refine g_iconst 22 C 0 dX5_init_21 rfl (by decide) ?_
  refine g_put 25 C (own := RX5) (C1 := RX5) (T := TX5) (w2 := ([(h0, .inr (7, [.ref (u1 0), .int 0, .int 0, .null, .null]))] ++ ww_J4 Y u1 iJ4)) 0 2 tyX5 tyX5_ok nmX5 kiX5_init_wX5 kiX5_init_f22 rfl rfl (ty := .int) (by decide) rfl rfl (sg_blt rfl) dX5_init_22 rfl rfl rfl (by decide) rfl ?_
  refine g_aload_n 26 C dX5_init_25 rfl rfl rfl ?_
  refine g_bipush 28 C 12 dX5_init_26 rfl (by decide) ?_
  refine g_newaI 30 C 12 kiX5_init_ai (by decide) rfl (Nat.le_of_ble_eq_true rfl) (Nat.le_of_ble_eq_true rfl) (Nat.le_of_ble_eq_true rfl) dX5_init_28 rfl (fun q2 => ?_)
  refine g_putF 33 C (own := RX5) (C1 := RX5) (T := TX5) (w2 := (([(h0, .inr (7, [.ref (u1 0), .int 0, .int 0, .ref q2, .null]))] ++ ww_J4 Y u1 iJ4) ++ [(q2, .inl (Y 0, 12, .inl (fun _ => 0)))])) 0 3 tyX5 tyX5_ok nmX5 kiX5_init_wX5 kiX5_init_f25 rfl rfl hnm rfl (ty := (.array .int)) (by decide) rfl rfl (sg_blt rfl) dX5_init_30 rfl rfl rfl (by decide) rfl ?_
  refine g_aload_n 34 C dX5_init_33 rfl rfl rfl ?_
  refine g_bipush 36 C 12 dX5_init_34 rfl (by decide) ?_
  refine g_iconst 37 C 3 dX5_init_36 rfl (by decide) ?_
  refine g_mna 41 C hZN 12 3 kiX5_init_cl29 kiX5_init_ai (by decide) (by decide) rfl rfl (Nat.le_of_ble_eq_true rfl) (Nat.le_of_ble_eq_true rfl) (Nat.le_of_ble_eq_true rfl) (Nat.le_of_ble_eq_true rfl) (Nat.le_of_ble_eq_true rfl) dX5_init_37 rfl (fun q3 r3 => ?_)
  refine g_putF 44 C (own := RX5) (C1 := RX5) (T := TX5) (w2 := ((([(h0, .inr (7, [.ref (u1 0), .int 0, .int 0, .ref q2, .ref q3]))] ++ ww_J4 Y u1 iJ4) ++ [(q2, .inl (Y 0, 12, .inl (fun _ => 0))), (q3, .inl (Y 3, 12, .inr (.inr (.inr (.inr (fun i => if i < 12 then some (r3 i) else none))))))]) ++ (List.range 12).map (fun i => (r3 i, .inl (Y 0, 3, .inl (fun _ => 0)))))) 0 4 tyX5 tyX5_ok nmX5 kiX5_init_wX5 kiX5_init_f31 rfl rfl hnm rfl (ty := (.array (.array .int))) (by decide) rfl rfl (sg_blt rfl) dX5_init_41 rfl rfl rfl (by decide) rfl ?_
  refine g_widen 16 80 (Nat.le_of_ble_eq_true rfl) (Nat.le_of_ble_eq_true rfl) ?_
  obtain ⟨u, hu⟩ : ∃ u : Nat → Nat, u = fun k => cond (Nat.ble k 0) h0 (cond (Nat.ble k 2) (u1 (k - 1)) (cond (Nat.ble k 3) q2 (cond (Nat.ble k 4) q3 (r3 (k - 5))))) := ⟨_, rfl⟩
  refine g_eqw (w2 := ww_X5 Y u iX5) (by subst hu; exact sg_eqCons (sg_eqCons (sg_eqCons (sg_eqCons (sg_eqRow (fun i hi => by rcases (show i = 0 ∨ i = 1 ∨ i = 2 ∨ i = 3 ∨ i = 4 ∨ i = 5 ∨ i = 6 ∨ i = 7 ∨ i = 8 ∨ i = 9 ∨ i = 10 ∨ i = 11 by omega) with rfl | rfl | rfl | rfl | rfl | rfl | rfl | rfl | rfl | rfl | rfl | rfl <;> rfl)))))) ?_
  exact g_vretX u C hr hQ hsz dX5_init_44 (by rw [hu]; rfl) rfl
