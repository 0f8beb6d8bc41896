theorem kiJ5_length_8abf5_J4 : ∀ w ∈ u_ws RJ4 TJ4 4, w ∈ wsJ5_length_8abf5 := by decide +kernel
theorem kfJ5_length_8abf5_79 : Cond.fieldLink RJ5 79 "java/lang/AbstractStringBuilder" "count" "I" ∈ wsJ5_length_8abf5 := by decide +kernel
def f_J5_length_8abf5  (σ : sg_S) : Option Int32 := some (σ 0 3)
set_option maxHeartbeats 4000000 in
set_option maxRecDepth 100000 in
theorem c_J5_length_8abf5 (l : Launch) {D : va_G} {Y : Nat → ClassId} {Z : (Nat → Prop) → State → Heap → Prop} (hZ : sg_Zok Z) {ad : Nat → Nat} {σ : sg_S} {r : Int32} (hF : f_J5_length_8abf5  σ = some r) : sg_MI l yJ5_length_8abf5 wsJ5_length_8abf5 0 0 D Y Z [.ref (ad 0)] (ww_J4 Y ad σ) r (ww_J4 Y ad σ) := by
  intro sz
  refine sg_enter (own := RJ5) (maxL := 1) (ret := (some .int)) (cc := cJ5_length_8abf5) (by decide +kernel) rfl rfl (Nat.le_of_ble_eq_true rfl) hZ ?_
  intro p e s m args below meth c C hr Q hQ hsz
  refine g_lv (lv2 := [(0, .ref (ad 0))]) [0] rfl ?_
  rw [f_J5_length_8abf5] at hF
  refine g_aload_n 1 C dJ5_length_8abf5_0 rfl rfl rfl ?_
  refine g_get 4 C (own := RJ5) (C1 := RJ4) (T := TJ4) 0 3 (.int (σ 0 3)) kiJ5_length_8abf5_J4 kfJ5_length_8abf5_79 rfl dJ5_length_8abf5_1 rfl rfl rfl (by decide) rfl ?_
  have e1 := sg_someE hF
  exact g_iret C hr rfl hQ hsz dJ5_length_8abf5_4 e1.symm rfl
def f_J4_length_8abf5  (σ : sg_S) : Option Int32 := sg_bnd (f_J5_length_8abf5  σ) (fun r1 => some r1)
set_option maxHeartbeats 4000000 in
set_option maxRecDepth 100000 in
theorem c_J4_length_8abf5 (l : Launch) {D : va_G} {Y : Nat → ClassId} {Z : (Nat → Prop) → State → Heap → Prop} (hZ : sg_Zok Z) {ad : Nat → Nat} {σ : sg_S} {r : Int32} (hF : f_J4_length_8abf5  σ = some r) : sg_MI l yJ4_length_8abf5 wsJ4_length_8abf5 1 20 D Y Z [.ref (ad 0)] (ww_J4 Y ad σ) r (ww_J4 Y ad σ) := by
  intro sz
  refine sg_enter (own := RJ4) (maxL := 1) (ret := (some .int)) (cc := cJ4_length_8abf5) (by decide +kernel) rfl rfl (Nat.le_of_ble_eq_true rfl) hZ ?_
  intro p e s m args below meth c C hr Q hQ hsz
  refine g_lv (lv2 := [(0, .ref (ad 0))]) [0] rfl ?_
  rw [f_J4_length_8abf5] at hF
  refine g_aload_n 1 C dJ4_length_8abf5_0 rfl rfl rfl ?_
  obtain ⟨r1, q2, hF⟩ := sg_bndE hF
  refine g_callSUi 4 C (w2 := (ww_J4 Y ad σ)) (As := []) (st := []) (n0 := 0) (C2 := RJ4) (ci := 1) (q0 := 0) (c_J5_length_8abf5 l hZ (ad := ad) q2) gJ4_length_8abf5_J5_length_8abf5_s343 ⟨by decide +kernel, rfl⟩ rfl ⟨Nat.le_of_ble_eq_true rfl, Nat.le_of_ble_eq_true rfl⟩ rfl rfl sg_cutAll rfl (Nat.le_of_ble_eq_true rfl) ⟨Nat.le_refl _, Nat.le_refl _⟩ dJ4_length_8abf5_1 rfl rfl ?_
  have e1 := sg_someE hF
  exact g_iret C hr rfl hQ hsz dJ4_length_8abf5_4 e1.symm rfl
def f_J3_checkIndex_8e157 (x0 : Int32) (x1 : Int32) : Option Int32 := (if 0 ≤ x0 then (if x1 ≤ x0 then none else some x0) else none)
set_option maxHeartbeats 4000000 in
set_option maxRecDepth 100000 in
theorem c_J3_checkIndex_8e157_n (l : Launch) {D : va_G} {Y : Nat → ClassId} {Z : (Nat → Prop) → State → Heap → Prop} (hZ : sg_Zok Z) {ad : Nat → Nat} {σ : sg_S} {x0 x1 : Int32} {r : Int32} (hF : f_J3_checkIndex_8e157 x0 x1 = some r) : sg_MI l yJ3_checkIndex_8e157 wsJ3_checkIndex_8e157 0 0 D Y Z [.int x0, .int x1, .null] (ww_0 Y ad σ) r (ww_0 Y ad σ) := by
  intro sz
  refine sg_enter (own := RJ3) (maxL := 3) (ret := (some .int)) (cc := cJ3_checkIndex_8e157) (by decide +kernel) rfl rfl (Nat.le_of_ble_eq_true rfl) hZ ?_
  intro p e s m args below meth c C hr Q hQ hsz
  refine g_lv (lv2 := [(0, .int x0), (1, .int x1), (2, .null)]) [0, 1, 2] rfl ?_
  rw [f_J3_checkIndex_8e157] at hF
  refine g_iload_n 1 C dJ3_checkIndex_8e157_0 rfl rfl rfl ?_
  refine g_if_lt 4 9 C dJ3_checkIndex_8e157_1 (by decide) rfl hF (fun hF => ?_) (fun hF => ?_)
  · refine g_aload_nZ 10 C dJ3_checkIndex_8e157_9 rfl rfl rfl ?_
    refine g_iload_n 11 C dJ3_checkIndex_8e157_10 rfl rfl rfl ?_
    refine g_iload_n 12 C dJ3_checkIndex_8e157_11 rfl rfl rfl ?_
    exact nomatch hF
  · refine g_iload_n 5 C dJ3_checkIndex_8e157_4 rfl rfl rfl ?_
    refine g_iload_n 6 C dJ3_checkIndex_8e157_5 rfl rfl rfl ?_
    refine g_icmp_lt 9 16 C dJ3_checkIndex_8e157_6 (by decide) rfl hF (fun hF => ?_) (fun hF => ?_)
    · refine g_iload_n 17 C dJ3_checkIndex_8e157_16 rfl rfl rfl ?_
      have e1 := sg_someE hF
      exact g_iret C hr rfl hQ hsz dJ3_checkIndex_8e157_17 e1.symm rfl
    · refine g_aload_nZ 10 C dJ3_checkIndex_8e157_9 rfl rfl rfl ?_
      refine g_iload_n 11 C dJ3_checkIndex_8e157_10 rfl rfl rfl ?_
      refine g_iload_n 12 C dJ3_checkIndex_8e157_11 rfl rfl rfl ?_
      exact nomatch hF
set_option maxHeartbeats 4000000 in
set_option maxRecDepth 100000 in
theorem c_J3_checkIndex_8e157_r (l : Launch) {D : va_G} {Y : Nat → ClassId} {Z : (Nat → Prop) → State → Heap → Prop} (hZ : sg_Zok Z) {tq : Nat} {ad : Nat → Nat} {σ : sg_S} {x0 x1 : Int32} {r : Int32} (hF : f_J3_checkIndex_8e157 x0 x1 = some r) : sg_MI l yJ3_checkIndex_8e157 wsJ3_checkIndex_8e157 0 0 D Y Z [.int x0, .int x1, .ref tq] (ww_0 Y ad σ) r (ww_0 Y ad σ) := by
  intro sz
  refine sg_enter (own := RJ3) (maxL := 3) (ret := (some .int)) (cc := cJ3_checkIndex_8e157) (by decide +kernel) rfl rfl (Nat.le_of_ble_eq_true rfl) hZ ?_
  intro p e s m args below meth c C hr Q hQ hsz
  refine g_lv (lv2 := [(0, .int x0), (1, .int x1), (2, .ref tq)]) [0, 1, 2] rfl ?_
  rw [f_J3_checkIndex_8e157] at hF
  refine g_iload_n 1 C dJ3_checkIndex_8e157_0 rfl rfl rfl ?_
  refine g_if_lt 4 9 C dJ3_checkIndex_8e157_1 (by decide) rfl hF (fun hF => ?_) (fun hF => ?_)
  · refine g_aload_n 10 C dJ3_checkIndex_8e157_9 rfl rfl rfl ?_
    refine g_iload_n 11 C dJ3_checkIndex_8e157_10 rfl rfl rfl ?_
    refine g_iload_n 12 C dJ3_checkIndex_8e157_11 rfl rfl rfl ?_
    exact nomatch hF
  · refine g_iload_n 5 C dJ3_checkIndex_8e157_4 rfl rfl rfl ?_
    refine g_iload_n 6 C dJ3_checkIndex_8e157_5 rfl rfl rfl ?_
    refine g_icmp_lt 9 16 C dJ3_checkIndex_8e157_6 (by decide) rfl hF (fun hF => ?_) (fun hF => ?_)
    · refine g_iload_n 17 C dJ3_checkIndex_8e157_16 rfl rfl rfl ?_
      have e1 := sg_someE hF
      exact g_iret C hr rfl hQ hsz dJ3_checkIndex_8e157_17 e1.symm rfl
    · refine g_aload_n 10 C dJ3_checkIndex_8e157_9 rfl rfl rfl ?_
      refine g_iload_n 11 C dJ3_checkIndex_8e157_10 rfl rfl rfl ?_
      refine g_iload_n 12 C dJ3_checkIndex_8e157_11 rfl rfl rfl ?_
      exact nomatch hF
theorem kfJ0_checkIndex_df160_1053 : Cond.fieldLink RJ0 1053 "jdk/internal/util/Preconditions" "SIOOBE_FORMATTER" "Ljava/util/function/BiFunction;" ∈ wsJ0_checkIndex_df160 := by decide +kernel
def f_J0_checkIndex_df160 (x0 : Int32) (x1 : Int32) : Option Int32 := sg_bnd (f_J3_checkIndex_8e157 x0 x1) (fun r1 => some 0)
set_option maxHeartbeats 4000000 in
set_option maxRecDepth 100000 in
theorem c_J0_checkIndex_df160 (l : Launch) {D : va_G} {Y : Nat → ClassId} {Z : (Nat → Prop) → State → Heap → Prop} (hZ : sg_Zok Z) {jK jV jT : Nat → Nat} (hJ : sg_ZJ Z jK jV jT) {ad : Nat → Nat} {σ : sg_S} {x0 x1 : Int32} {r : Int32} (hF : f_J0_checkIndex_df160 x0 x1 = some r) : sg_MV l yJ0_checkIndex_df160 wsJ0_checkIndex_df160 1 22 D Y Z [.int x0, .int x1] (ww_0 Y ad σ) (ww_0 Y ad σ) := by
  intro sz
  refine sg_enter (own := RJ0) (maxL := 2) (ret := none) (cc := cJ0_checkIndex_df160) (by decide +kernel) rfl rfl (Nat.le_of_ble_eq_true rfl) hZ ?_
  intro p e s m args below meth c C hr Q hQ hsz
  have hJJ := hJ _ _ _ C.2.2.2.2.2.2.2.2.1
  refine g_lv (lv2 := [(0, .int x0), (1, .int x1)]) [0, 1] rfl ?_
  rw [f_J0_checkIndex_df160] at hF
  refine g_iload_n 1 C dJ0_checkIndex_df160_0 rfl rfl rfl ?_
  refine g_iload_n 2 C dJ0_checkIndex_df160_1 rfl rfl rfl ?_
  rcases hJJ.2.1 with hq | ⟨tq, hq⟩
  · refine g_getsW 5 C hq kfJ0_checkIndex_df160_1053 rfl dJ0_checkIndex_df160_2 rfl ?_
    obtain ⟨r1, q2, hF⟩ := sg_bndE hF
    refine g_callSi 8 C (w2 := (ww_0 Y ad σ)) (As := [.int x0, .int x1, .null]) (st := []) (n0 := 3) [] [] [] (c_J3_checkIndex_8e157_n l hZ (ad := ad) (σ := σ) q2) gJ0_checkIndex_df160_J3_checkIndex_8e157 ⟨by decide +kernel, by decide +kernel, rfl⟩ rfl ⟨Nat.le_of_ble_eq_true rfl, Nat.le_of_ble_eq_true rfl⟩ ⟨rfl, rfl, rfl, by decide, rfl, rfl⟩ rfl rfl (Nat.le_of_ble_eq_true rfl) ⟨Nat.le_refl _, Nat.le_refl _⟩ dJ0_checkIndex_df160_5 rfl rfl ?_
    refine g_pop 9 C dJ0_checkIndex_df160_8 rfl rfl ?_
    exact g_vret C hr hQ hsz dJ0_checkIndex_df160_9 rfl
  · refine g_getsW 5 C hq kfJ0_checkIndex_df160_1053 rfl dJ0_checkIndex_df160_2 rfl ?_
    obtain ⟨r1, q2, hF⟩ := sg_bndE hF
    refine g_callSi 8 C (w2 := (ww_0 Y ad σ)) (As := [.int x0, .int x1, .ref tq]) (st := []) (n0 := 3) [] [] [] (c_J3_checkIndex_8e157_r l hZ (ad := ad) (σ := σ) q2) gJ0_checkIndex_df160_J3_checkIndex_8e157 ⟨by decide +kernel, by decide +kernel, rfl⟩ rfl ⟨Nat.le_of_ble_eq_true rfl, Nat.le_of_ble_eq_true rfl⟩ ⟨rfl, rfl, rfl, by decide, rfl, rfl⟩ rfl rfl (Nat.le_of_ble_eq_true rfl) ⟨Nat.le_refl _, Nat.le_refl _⟩ dJ0_checkIndex_df160_5 rfl rfl ?_
    refine g_pop 9 C dJ0_checkIndex_df160_8 rfl rfl ?_
    exact g_vret C hr hQ hsz dJ0_checkIndex_df160_9 rfl
theorem kiJ5_charAt_5068e_J4 : ∀ w ∈ u_ws RJ4 TJ4 4, w ∈ wsJ5_charAt_5068e := by decide +kernel
theorem kfJ5_charAt_5068e_22 : Cond.fieldLink RJ5 22 "java/lang/AbstractStringBuilder" "coder" "B" ∈ wsJ5_charAt_5068e := by decide +kernel
theorem kfJ5_charAt_5068e_15 : Cond.fieldLink RJ5 15 "java/lang/AbstractStringBuilder" "value" "[B" ∈ wsJ5_charAt_5068e := by decide +kernel
theorem kfJ5_charAt_5068e_79 : Cond.fieldLink RJ5 79 "java/lang/AbstractStringBuilder" "count" "I" ∈ wsJ5_charAt_5068e := by decide +kernel
theorem kmJ5_charAt_5068e_138 : Cond.methodLink RJ5 138 Lib.Math.min.name ∈ wsJ5_charAt_5068e := by decide +kernel
theorem ksJ5_charAt_5068e_mmin : Cond.static Lib.Math.min.name ∈ wsJ5_charAt_5068e := by decide +kernel
theorem knJ5_charAt_5068e_math : Cond.initialized "java/lang/Math" ∈ wsJ5_charAt_5068e := by decide +kernel
theorem kcJ5_charAt_5068e_mmin : Cond.code Lib.Math.min.name Lib.Math.min.code 2 (some .int) ∈ wsJ5_charAt_5068e := by decide +kernel
def f_J5_charAt_5068e (x1 : Int32) (σ : sg_S) : Option Int32 := sg_let (σ 0 1) (fun y1 => sg_grd (decide (0 ≤ σ 0 0)) (sg_let (if (σ 0 0) >>> (y1 &&& 31) < σ 0 3 then (σ 0 0) >>> (y1 &&& 31) else σ 0 3) (fun y3 => sg_bnd (f_J0_checkIndex_df160 x1 y3) (fun r4 => (if y1 = 0 then sg_grd (sg_in x1 (σ 0 0).toNatClampNeg) (sg_grd (sg_ch ((((σ 1 x1.toNatClampNeg) &&& 255).toUInt32 % 65536).toInt32)) (some ((((σ 1 x1.toNatClampNeg) &&& 255).toUInt32 % 65536).toInt32))) else none)))))
set_option maxHeartbeats 4000000 in
set_option maxRecDepth 100000 in
theorem c_J5_charAt_5068e (l : Launch) {D : va_G} {Y : Nat → ClassId} {Z : (Nat → Prop) → State → Heap → Prop} (hZ : sg_Zok Z) {jK jV jT : Nat → Nat} (hJ : sg_ZJ Z jK jV jT) {ad : Nat → Nat} {σ : sg_S} {x1 : Int32} {r : Int32} (hF : f_J5_charAt_5068e x1 σ = some r) : sg_MI l yJ5_charAt_5068e wsJ5_charAt_5068e 2 43 D Y Z [.ref (ad 0), .int x1] (ww_J4 Y ad σ) r (ww_J4 Y ad σ) := by
  intro sz
  refine sg_enter (own := RJ5) (maxL := 5) (ret := (some .char)) (cc := cJ5_charAt_5068e) (by decide +kernel) rfl rfl (Nat.le_of_ble_eq_true rfl) hZ ?_
  intro p e s m args below meth c C hr Q hQ hsz
  have hJJ := hJ _ _ _ C.2.2.2.2.2.2.2.2.1
  refine g_lv (lv2 := [(0, .ref (ad 0)), (1, .int x1)]) [0, 1] rfl ?_
  rw [f_J5_charAt_5068e] at hF
  refine g_aload_n 1 C dJ5_charAt_5068e_0 rfl rfl rfl ?_
  refine g_get 4 C (own := RJ5) (C1 := RJ4) (T := TJ4) 0 1 (.int (σ 0 1)) kiJ5_charAt_5068e_J4 kfJ5_charAt_5068e_22 rfl dJ5_charAt_5068e_1 rfl rfl rfl (by decide) rfl ?_
  obtain ⟨y1, ey1, hF⟩ := sg_letE hF
  refine g_top ey1 ?_
  refine g_istore_n 5 C [(2, .int y1), (0, .ref (ad 0)), (1, .int x1)] dJ5_charAt_5068e_4 rfl rfl (by decide) rfl ?_
  refine g_aload_n 6 C dJ5_charAt_5068e_5 rfl rfl rfl ?_
  refine g_get 9 C (own := RJ5) (C1 := RJ4) (T := TJ4) 0 0 (.ref (ad 1)) kiJ5_charAt_5068e_J4 kfJ5_charAt_5068e_15 rfl dJ5_charAt_5068e_6 rfl rfl rfl (by decide) rfl ?_
  refine g_astore_n 10 C [(3, .ref (ad 1)), (2, .int y1), (0, .ref (ad 0)), (1, .int x1)] dJ5_charAt_5068e_9 rfl rfl (by decide) rfl ?_
  refine g_aload_n 11 C dJ5_charAt_5068e_10 rfl rfl rfl ?_
  refine g_get 14 C (own := RJ5) (C1 := RJ4) (T := TJ4) 0 3 (.int (σ 0 3)) kiJ5_charAt_5068e_J4 kfJ5_charAt_5068e_79 rfl dJ5_charAt_5068e_11 rfl rfl rfl (by decide) rfl ?_
  refine g_aload_n 15 C dJ5_charAt_5068e_14 rfl rfl rfl ?_
  obtain ⟨h2, hF⟩ := sg_grdE hF
  refine g_alen 16 C (v := σ 0 0) 1 1 dJ5_charAt_5068e_15 rfl rfl rfl (sg_ofcl h2) ?_
  refine g_iload_n 17 C dJ5_charAt_5068e_16 rfl rfl rfl ?_
  refine g_ishr 18 C dJ5_charAt_5068e_17 rfl ?_
  refine g_mmin 21 C kmJ5_charAt_5068e_138 ksJ5_charAt_5068e_mmin knJ5_charAt_5068e_math kcJ5_charAt_5068e_mmin (Nat.le_of_ble_eq_true rfl) (Nat.le_of_ble_eq_true rfl) (Nat.le_refl _) (Nat.le_refl _) dJ5_charAt_5068e_18 rfl ?_
  obtain ⟨y3, ey3, hF⟩ := sg_letE hF
  refine g_top ey3 ?_
  refine g_istore 23 C [(4, .int y3), (3, .ref (ad 1)), (2, .int y1), (0, .ref (ad 0)), (1, .int x1)] dJ5_charAt_5068e_21 rfl (by decide) rfl ?_
  refine g_iload_n 24 C dJ5_charAt_5068e_23 rfl rfl rfl ?_
  refine g_iload 26 C dJ5_charAt_5068e_24 rfl rfl ?_
  obtain ⟨r4, q5, hF⟩ := sg_bndE hF
  refine g_callSv 29 C (w2 := (ww_J4 Y ad σ)) (As := [.int x1, .int y3]) (st := []) (n0 := 2) [] [0, 1] [0, 1] (c_J0_checkIndex_df160 l hZ hJ (ad := ad) (σ := σ) q5) gJ5_charAt_5068e_J0_checkIndex_df160 ⟨by decide +kernel, by decide +kernel, rfl⟩ rfl ⟨Nat.le_of_ble_eq_true rfl, Nat.le_of_ble_eq_true rfl⟩ ⟨rfl, rfl, rfl, by decide, rfl, rfl⟩ rfl rfl (Nat.le_of_ble_eq_true rfl) ⟨Nat.le_refl _, Nat.le_refl _⟩ dJ5_charAt_5068e_26 rfl rfl ?_
  refine g_iload_n 30 C dJ5_charAt_5068e_29 rfl rfl rfl ?_
  refine g_if_ne 33 42 C dJ5_charAt_5068e_30 (by decide) rfl hF (fun hF => ?_) (fun hF => ?_)
  · refine g_aload_n 43 C dJ5_charAt_5068e_42 rfl rfl rfl ?_
    refine g_iload_n 44 C dJ5_charAt_5068e_43 rfl rfl rfl ?_
    exact nomatch hF
  · refine g_aload_n 34 C dJ5_charAt_5068e_33 rfl rfl rfl ?_
    refine g_iload_n 35 C dJ5_charAt_5068e_34 rfl rfl rfl ?_
    obtain ⟨h6, hF⟩ := sg_grdE hF
    refine g_baldc 36 C 1 (x1.toNatClampNeg) (σ 1 x1.toNatClampNeg) dJ5_charAt_5068e_35 rfl rfl rfl h6 rfl ?_
    refine g_sipush 39 C 255 dJ5_charAt_5068e_36 rfl (by decide) ?_
    refine g_iand 40 C dJ5_charAt_5068e_39 rfl ?_
    refine g_i2c 41 C dJ5_charAt_5068e_40 rfl ?_
    obtain ⟨h7, hF⟩ := sg_grdE hF
    have e1 := sg_someE hF
    exact g_iret C hr (sg_chn h7) hQ hsz dJ5_charAt_5068e_41 e1.symm rfl
def f_J4_charAt_5068e (x1 : Int32) (σ : sg_S) : Option Int32 := sg_bnd (f_J5_charAt_5068e x1 σ) (fun r1 => sg_grd (sg_ch r1) (some r1))
set_option maxHeartbeats 4000000 in
set_option maxRecDepth 100000 in
theorem c_J4_charAt_5068e (l : Launch) {D : va_G} {Y : Nat → ClassId} {Z : (Nat → Prop) → State → Heap → Prop} (hZ : sg_Zok Z) {jK jV jT : Nat → Nat} (hJ : sg_ZJ Z jK jV jT) {ad : Nat → Nat} {σ : sg_S} {x1 : Int32} {r : Int32} (hF : f_J4_charAt_5068e x1 σ = some r) : sg_MI l yJ4_charAt_5068e wsJ4_charAt_5068e 3 67 D Y Z [.ref (ad 0), .int x1] (ww_J4 Y ad σ) r (ww_J4 Y ad σ) := by
  intro sz
  refine sg_enter (own := RJ4) (maxL := 2) (ret := (some .char)) (cc := cJ4_charAt_5068e) (by decide +kernel) rfl rfl (Nat.le_of_ble_eq_true rfl) hZ ?_
  intro p e s m args below meth c C hr Q hQ hsz
  have hJJ := hJ _ _ _ C.2.2.2.2.2.2.2.2.1
  refine g_lv (lv2 := [(0, .ref (ad 0)), (1, .int x1)]) [0, 1] rfl ?_
  rw [f_J4_charAt_5068e] at hF
  refine g_aload_n 1 C dJ4_charAt_5068e_0 rfl rfl rfl ?_
  refine g_iload_n 2 C dJ4_charAt_5068e_1 rfl rfl rfl ?_
  obtain ⟨r1, q2, hF⟩ := sg_bndE hF
  refine g_callSUi 5 C (w2 := (ww_J4 Y ad σ)) (As := [.int x1]) (st := []) (n0 := 1) (C2 := RJ4) (ci := 1) (q0 := 0) (c_J5_charAt_5068e l hZ hJ (ad := ad) q2) gJ4_charAt_5068e_J5_charAt_5068e_s329 ⟨by decide +kernel, rfl⟩ rfl ⟨Nat.le_of_ble_eq_true rfl, Nat.le_of_ble_eq_true rfl⟩ rfl rfl sg_cutAll rfl (Nat.le_of_ble_eq_true rfl) ⟨Nat.le_refl _, Nat.le_refl _⟩ dJ4_charAt_5068e_2 rfl rfl ?_
  obtain ⟨h3, hF⟩ := sg_grdE hF
  have e1 := sg_someE hF
  exact g_iret C hr (sg_chn h3) hQ hsz dJ4_charAt_5068e_5 e1.symm rfl
theorem kfJ0_isLatin1_aae02_38 : Cond.fieldLink RJ0 38 "java/lang/String" "COMPACT_STRINGS" "Z" ∈ wsJ0_isLatin1_aae02 := by decide +kernel
theorem kfJ0_isLatin1_aae02_15 : Cond.fieldLink RJ0 15 "java/lang/String" "coder" "B" ∈ wsJ0_isLatin1_aae02 := by decide +kernel
def f_J0_isLatin1_aae02 (k : Nat) : Option Int32 := (if (1 : Int32) = 0 then some 0 else (if (0 : Int32) = 0 then some 1 else some 0))
set_option maxHeartbeats 4000000 in
set_option maxRecDepth 100000 in
theorem c_J0_isLatin1_aae02 (l : Launch) {D : va_G} {Y : Nat → ClassId} {Z : (Nat → Prop) → State → Heap → Prop} (hZ : sg_Zok Z) {jK jV jT : Nat → Nat} (hJ : sg_ZJ Z jK jV jT) {k : Nat} (hk : k < 15) {ad : Nat → Nat} {σ : sg_S} {r : Int32} (hF : f_J0_isLatin1_aae02 k = some r) : sg_MI l yJ0_isLatin1_aae02 wsJ0_isLatin1_aae02 0 0 D Y Z [.ref (jK k)] (ww_0 Y ad σ) r (ww_0 Y ad σ) := by
  intro sz
  refine sg_enter (own := RJ0) (maxL := 1) (ret := (some .boolean)) (cc := cJ0_isLatin1_aae02) (by decide +kernel) rfl rfl (Nat.le_of_ble_eq_true rfl) hZ ?_
  intro p e s m args below meth c C hr Q hQ hsz
  have hJJ := hJ _ _ _ C.2.2.2.2.2.2.2.2.1
  refine g_lv (lv2 := [(0, .ref (jK k))]) [0] rfl ?_
  rw [f_J0_isLatin1_aae02] at hF
  refine g_getsW 3 C hJJ.1 kfJ0_isLatin1_aae02_38 rfl dJ0_isLatin1_aae02_0 rfl ?_
  refine g_if_eq 6 17 C dJ0_isLatin1_aae02_3 (by decide) rfl hF (fun hF => ?_) (fun hF => ?_)
  · refine g_iconst 18 C 0 dJ0_isLatin1_aae02_17 rfl (by decide) ?_
    have e1 := sg_someE hF
    exact g_iret C hr rfl hQ hsz dJ0_isLatin1_aae02_18 e1.symm rfl
  · refine g_aload_n 7 C dJ0_isLatin1_aae02_6 rfl rfl rfl ?_
    refine g_gets0 10 C (hJJ.2.2.1.1 k hk).2.1 kfJ0_isLatin1_aae02_15 rfl dJ0_isLatin1_aae02_7 rfl ?_
    refine g_if_ne 13 17 C dJ0_isLatin1_aae02_10 (by decide) rfl hF (fun hF => ?_) (fun hF => ?_)
    · refine g_iconst 18 C 0 dJ0_isLatin1_aae02_17 rfl (by decide) ?_
      have e1 := sg_someE hF
      exact g_iret C hr rfl hQ hsz dJ0_isLatin1_aae02_18 e1.symm rfl
    · refine g_iconst 14 C 1 dJ0_isLatin1_aae02_13 rfl (by decide) ?_
      refine g_goto 18 C dJ0_isLatin1_aae02_14 (by decide) ?_
      have e1 := sg_someE hF
      exact g_iret C hr rfl hQ hsz dJ0_isLatin1_aae02_18 e1.symm rfl
theorem kfJ0_coder_7d493_38 : Cond.fieldLink RJ0 38 "java/lang/String" "COMPACT_STRINGS" "Z" ∈ wsJ0_coder_7d493 := by decide +kernel
theorem kfJ0_coder_7d493_15 : Cond.fieldLink RJ0 15 "java/lang/String" "coder" "B" ∈ wsJ0_coder_7d493 := by decide +kernel
def f_J0_coder_7d493 (k : Nat) : Option Int32 := (if (1 : Int32) = 0 then some 1 else some 0)
set_option maxHeartbeats 4000000 in
set_option maxRecDepth 100000 in
theorem c_J0_coder_7d493 (l : Launch) {D : va_G} {Y : Nat → ClassId} {Z : (Nat → Prop) → State → Heap → Prop} (hZ : sg_Zok Z) {jK jV jT : Nat → Nat} (hJ : sg_ZJ Z jK jV jT) {k : Nat} (hk : k < 15) {ad : Nat → Nat} {σ : sg_S} {r : Int32} (hF : f_J0_coder_7d493 k = some r) : sg_MI l yJ0_coder_7d493 wsJ0_coder_7d493 0 0 D Y Z [.ref (jK k)] (ww_0 Y ad σ) r (ww_0 Y ad σ) := by
  intro sz
  refine sg_enter (own := RJ0) (maxL := 1) (ret := (some .byte)) (cc := cJ0_coder_7d493) (by decide +kernel) rfl rfl (Nat.le_of_ble_eq_true rfl) hZ ?_
  intro p e s m args below meth c C hr Q hQ hsz
  have hJJ := hJ _ _ _ C.2.2.2.2.2.2.2.2.1
  refine g_lv (lv2 := [(0, .ref (jK k))]) [0] rfl ?_
  rw [f_J0_coder_7d493] at hF
  refine g_getsW 3 C hJJ.1 kfJ0_coder_7d493_38 rfl dJ0_coder_7d493_0 rfl ?_
  refine g_if_eq 6 13 C dJ0_coder_7d493_3 (by decide) rfl hF (fun hF => ?_) (fun hF => ?_)
  · refine g_iconst 14 C 1 dJ0_coder_7d493_13 rfl (by decide) ?_
    have e1 := sg_someE hF
    exact g_iret C hr rfl hQ hsz dJ0_coder_7d493_14 e1.symm rfl
  · refine g_aload_n 7 C dJ0_coder_7d493_6 rfl rfl rfl ?_
    refine g_gets0 10 C (hJJ.2.2.1.1 k hk).2.1 kfJ0_coder_7d493_15 rfl dJ0_coder_7d493_7 rfl ?_
    refine g_goto 14 C dJ0_coder_7d493_10 (by decide) ?_
    have e1 := sg_someE hF
    exact g_iret C hr rfl hQ hsz dJ0_coder_7d493_14 e1.symm rfl
theorem kfJ0_length_8abf5_9 : Cond.fieldLink RJ0 9 "java/lang/String" "value" "[B" ∈ wsJ0_length_8abf5 := by decide +kernel
def f_J0_length_8abf5 (k : Nat) : Option Int32 := sg_bnd (f_J0_coder_7d493 k) (fun r1 => some ((nI (sg_len.getD k 0)) >>> (r1 &&& 31)))
set_option maxHeartbeats 4000000 in
set_option maxRecDepth 100000 in
theorem c_J0_length_8abf5 (l : Launch) {D : va_G} {Y : Nat → ClassId} {Z : (Nat → Prop) → State → Heap → Prop} (hZ : sg_Zok Z) {jK jV jT : Nat → Nat} (hJ : sg_ZJ Z jK jV jT) {k : Nat} (hk : k < 15) {ad : Nat → Nat} {σ : sg_S} {r : Int32} (hF : f_J0_length_8abf5 k = some r) : sg_MI l yJ0_length_8abf5 wsJ0_length_8abf5 1 20 D Y Z [.ref (jK k)] (ww_0 Y ad σ) r (ww_0 Y ad σ) := by
  intro sz
  refine sg_enter (own := RJ0) (maxL := 1) (ret := (some .int)) (cc := cJ0_length_8abf5) (by decide +kernel) rfl rfl (Nat.le_of_ble_eq_true rfl) hZ ?_
  intro p e s m args below meth c C hr Q hQ hsz
  have hJJ := hJ _ _ _ C.2.2.2.2.2.2.2.2.1
  refine g_lv (lv2 := [(0, .ref (jK k))]) [0] rfl ?_
  rw [f_J0_length_8abf5] at hF
  refine g_aload_n 1 C dJ0_length_8abf5_0 rfl rfl rfl ?_
  refine g_gets0 4 C (hJJ.2.2.1.1 k hk).2.2.1 kfJ0_length_8abf5_9 rfl dJ0_length_8abf5_1 rfl ?_
  refine g_tblen 5 C (nI (sg_len.getD k 0)) (hJJ.2.2.1.1 k hk).2.2.2 rfl dJ0_length_8abf5_4 rfl ?_
  refine g_aload_n 6 C dJ0_length_8abf5_5 rfl rfl rfl ?_
  obtain ⟨r1, q2, hF⟩ := sg_bndE hF
  refine g_callKi 9 C (w2 := (ww_0 Y ad σ)) (As := []) (st := [.int (nI (sg_len.getD k 0))]) (n0 := 0) (c_J0_coder_7d493 l hZ hJ (hk := hk) (ad := ad) (σ := σ) q2) gJ0_length_8abf5_J0_coder_7d493 ⟨rfl, by decide +kernel, by decide +kernel, rfl⟩ rfl ⟨Nat.le_of_ble_eq_true rfl, Nat.le_of_ble_eq_true rfl⟩ (fun H locs hS => vk_recv hJJ.2.2.1 hk hS) sg_cutNone rfl (Nat.le_of_ble_eq_true rfl) ⟨Nat.le_refl _, Nat.le_refl _⟩ dJ0_length_8abf5_6 rfl rfl ?_
  refine g_ishr 10 C dJ0_length_8abf5_9 rfl ?_
  have e1 := sg_someE hF
  exact g_iret C hr rfl hQ hsz dJ0_length_8abf5_10 e1.symm rfl
def f_J1_charAt_3b067 (k : Nat) (x1 : Int32) : Option Int32 := sg_bnd (f_J0_checkIndex_df160 x1 (nI (sg_len.getD k 0))) (fun r1 => sg_grd (sg_in x1 (sg_len.getD k 0)) (sg_grd (sg_ch (((((sg_byt.getD k []).getD x1.toNatClampNeg 0) &&& 255).toUInt32 % 65536).toInt32)) (some (((((sg_byt.getD k []).getD x1.toNatClampNeg 0) &&& 255).toUInt32 % 65536).toInt32))))
set_option maxHeartbeats 4000000 in
set_option maxRecDepth 100000 in
theorem c_J1_charAt_3b067 (l : Launch) {D : va_G} {Y : Nat → ClassId} {Z : (Nat → Prop) → State → Heap → Prop} (hZ : sg_Zok Z) {jK jV jT : Nat → Nat} (hJ : sg_ZJ Z jK jV jT) {k : Nat} (hk : k < 15) {ad : Nat → Nat} {σ : sg_S} {x1 : Int32} {r : Int32} (hF : f_J1_charAt_3b067 k x1 = some r) : sg_MI l yJ1_charAt_3b067 wsJ1_charAt_3b067 2 43 D Y Z [.ref (jV k), .int x1] (ww_0 Y ad σ) r (ww_0 Y ad σ) := by
  intro sz
  refine sg_enter (own := RJ1) (maxL := 2) (ret := (some .char)) (cc := cJ1_charAt_3b067) (by decide +kernel) rfl rfl (Nat.le_of_ble_eq_true rfl) hZ ?_
  intro p e s m args below meth c C hr Q hQ hsz
  have hJJ := hJ _ _ _ C.2.2.2.2.2.2.2.2.1
  refine g_lv (lv2 := [(0, .ref (jV k)), (1, .int x1)]) [0, 1] rfl ?_
  rw [f_J1_charAt_3b067] at hF
  refine g_iload_n 1 C dJ1_charAt_3b067_0 rfl rfl rfl ?_
  refine g_aload_n 2 C dJ1_charAt_3b067_1 rfl rfl rfl ?_
  refine g_tblen 3 C (nI (sg_len.getD k 0)) (hJJ.2.2.1.1 k hk).2.2.2 rfl dJ1_charAt_3b067_2 rfl ?_
  obtain ⟨r1, q2, hF⟩ := sg_bndE hF
  refine g_callSv 6 C (w2 := (ww_0 Y ad σ)) (As := [.int x1, .int (nI (sg_len.getD k 0))]) (st := []) (n0 := 2) [] [] [] (c_J0_checkIndex_df160 l hZ hJ (ad := ad) (σ := σ) q2) gJ1_charAt_3b067_J0_checkIndex_df160 ⟨by decide +kernel, by decide +kernel, rfl⟩ rfl ⟨Nat.le_of_ble_eq_true rfl, Nat.le_of_ble_eq_true rfl⟩ ⟨rfl, rfl, rfl, by decide, rfl, rfl⟩ rfl rfl (Nat.le_of_ble_eq_true rfl) ⟨Nat.le_refl _, Nat.le_refl _⟩ dJ1_charAt_3b067_3 rfl rfl ?_
  refine g_aload_n 7 C dJ1_charAt_3b067_6 rfl rfl rfl ?_
  refine g_iload_n 8 C dJ1_charAt_3b067_7 rfl rfl rfl ?_
  obtain ⟨h3, hF⟩ := sg_grdE hF
  refine g_tbld 9 C (.int ((sg_byt.getD k []).getD x1.toNatClampNeg 0)) (hJJ.2.2.1.1 k hk).2.2.2 h3 rfl dJ1_charAt_3b067_8 rfl ?_
  refine g_sipush 12 C 255 dJ1_charAt_3b067_9 rfl (by decide) ?_
  refine g_iand 13 C dJ1_charAt_3b067_12 rfl ?_
  refine g_i2c 14 C dJ1_charAt_3b067_13 rfl ?_
  obtain ⟨h4, hF⟩ := sg_grdE hF
  have e1 := sg_someE hF
  exact g_iret C hr (sg_chn h4) hQ hsz dJ1_charAt_3b067_14 e1.symm rfl
theorem kfJ0_charAt_5068e_9 : Cond.fieldLink RJ0 9 "java/lang/String" "value" "[B" ∈ wsJ0_charAt_5068e := by decide +kernel
def f_J0_charAt_5068e (k : Nat) (x1 : Int32) : Option Int32 := sg_bnd (f_J0_isLatin1_aae02 k) (fun r1 => (if r1 = 0 then none else sg_bnd (f_J1_charAt_3b067 k x1) (fun r3 => sg_grd (sg_ch r3) (some r3))))
set_option maxHeartbeats 4000000 in
set_option maxRecDepth 100000 in
theorem c_J0_charAt_5068e (l : Launch) {D : va_G} {Y : Nat → ClassId} {Z : (Nat → Prop) → State → Heap → Prop} (hZ : sg_Zok Z) {jK jV jT : Nat → Nat} (hJ : sg_ZJ Z jK jV jT) {k : Nat} (hk : k < 15) {ad : Nat → Nat} {σ : sg_S} {x1 : Int32} {r : Int32} (hF : f_J0_charAt_5068e k x1 = some r) : sg_MI l yJ0_charAt_5068e wsJ0_charAt_5068e 3 64 D Y Z [.ref (jK k), .int x1] (ww_0 Y ad σ) r (ww_0 Y ad σ) := by
  intro sz
  refine sg_enter (own := RJ0) (maxL := 2) (ret := (some .char)) (cc := cJ0_charAt_5068e) (by decide +kernel) rfl rfl (Nat.le_of_ble_eq_true rfl) hZ ?_
  intro p e s m args below meth c C hr Q hQ hsz
  have hJJ := hJ _ _ _ C.2.2.2.2.2.2.2.2.1
  refine g_lv (lv2 := [(0, .ref (jK k)), (1, .int x1)]) [0, 1] rfl ?_
  rw [f_J0_charAt_5068e] at hF
  refine g_aload_n 1 C dJ0_charAt_5068e_0 rfl rfl rfl ?_
  obtain ⟨r1, q2, hF⟩ := sg_bndE hF
  refine g_callKi 4 C (w2 := (ww_0 Y ad σ)) (As := []) (st := []) (n0 := 0) (c_J0_isLatin1_aae02 l hZ hJ (hk := hk) (ad := ad) (σ := σ) q2) gJ0_charAt_5068e_J0_isLatin1_aae02 ⟨rfl, by decide +kernel, by decide +kernel, rfl⟩ rfl ⟨Nat.le_of_ble_eq_true rfl, Nat.le_of_ble_eq_true rfl⟩ (fun H locs hS => vk_recv hJJ.2.2.1 hk hS) sg_cutNone rfl (Nat.le_of_ble_eq_true rfl) ⟨Nat.le_refl _, Nat.le_refl _⟩ dJ0_charAt_5068e_1 rfl rfl ?_
  refine g_if_eq 7 16 C dJ0_charAt_5068e_4 (by decide) rfl hF (fun hF => ?_) (fun hF => ?_)
  · refine g_aload_n 17 C dJ0_charAt_5068e_16 rfl rfl rfl ?_
    refine g_gets0 20 C (hJJ.2.2.1.1 k hk).2.2.1 kfJ0_charAt_5068e_9 rfl dJ0_charAt_5068e_17 rfl ?_
    refine g_iload_n 21 C dJ0_charAt_5068e_20 rfl rfl rfl ?_
    exact nomatch hF
  · refine g_aload_n 8 C dJ0_charAt_5068e_7 rfl rfl rfl ?_
    refine g_gets0 11 C (hJJ.2.2.1.1 k hk).2.2.1 kfJ0_charAt_5068e_9 rfl dJ0_charAt_5068e_8 rfl ?_
    refine g_iload_n 12 C dJ0_charAt_5068e_11 rfl rfl rfl ?_
    obtain ⟨r3, q4, hF⟩ := sg_bndE hF
    refine g_callSi 15 C (w2 := (ww_0 Y ad σ)) (As := [.ref (jV k), .int x1]) (st := []) (n0 := 2) [] [] [] (c_J1_charAt_3b067 l hZ hJ (hk := hk) (ad := ad) (σ := σ) q4) gJ0_charAt_5068e_J1_charAt_3b067 ⟨by decide +kernel, by decide +kernel, rfl⟩ rfl ⟨Nat.le_of_ble_eq_true rfl, Nat.le_of_ble_eq_true rfl⟩ ⟨rfl, rfl, rfl, by decide, rfl, rfl⟩ rfl rfl (Nat.le_of_ble_eq_true rfl) ⟨Nat.le_refl _, Nat.le_refl _⟩ dJ0_charAt_5068e_12 rfl rfl ?_
    obtain ⟨h5, hF⟩ := sg_grdE hF
    have e1 := sg_someE hF
    exact g_iret C hr (sg_chn h5) hQ hsz dJ0_charAt_5068e_15 e1.symm rfl
