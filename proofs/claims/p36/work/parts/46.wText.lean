def f_X5_formOf (x0 : Int32) : Option Nat := (if x0 = 0 then some 0 else (if x0 = 1 then some 1 else (if x0 = 2 then some 2 else (if x0 = 3 then some 3 else (if x0 = 4 then some 4 else (if x0 = 5 then some 5 else (if x0 = 6 then some 6 else some 7)))))))
set_option maxHeartbeats 4000000 in
set_option maxRecDepth 100000 in
theorem c_X5_formOf (l : Launch) {D : va_G} {Y : Nat → ClassId} {Z : (Nat → Prop) → State → Heap → Prop} (hZ : sg_Zok Z) {jK jV jT : Nat → Nat} (hJ : sg_ZJ Z jK jV jT) {ad : Nat → Nat} {σ : sg_S} {x0 : Int32} {r : Nat} (hF : f_X5_formOf x0 = some r) : sg_XR l yX5_formOf wsX5_formOf 0 0 0 0 D Y Z [.int x0] (ww_0 Y ad σ) (fun _ : Unit => True) (fun _ => jK r) (fun _ => (ww_0 Y ad σ)) := by
  intro sz
  refine sg_enter (own := RX5) (maxL := 1) (ret := (some (.object "java/lang/String"))) (cc := cX5_formOf) (by decide +kernel) rfl rfl (Nat.le_of_ble_eq_true rfl) hZ ?_
  intro p e s m args below meth c C hr Q hQ hsz
  have hJJ := hJ _ _ _ C.2.2.2.2.2.2.2.2.1
  refine g_lv (lv2 := [(0, .int x0)]) [0] rfl ?_
  rw [f_X5_formOf] at hF
  refine g_iload_n 1 C dX5_formOf_0 rfl rfl rfl ?_
  rcases sg_iteE hF with ⟨c1, hF⟩ | ⟨c1, hF⟩
  · refine g_tsin (off := 43) C 44 0 dX5_formOf_1 c1 (by decide) (by decide) (by decide) (by decide) ?_
    refine g_ldcS 46 C (hJJ.2.2.2.1 0 (by decide)) dX5_formOf_44 rfl ?_
    have e1 := sg_someE hF
    exact g_aretX (P := fun _ => True) (ra := fun _ => jK r) (w' := fun _ => (ww_0 Y ad σ)) () C hr (Or.inl ⟨_, rfl⟩) hQ hsz dX5_formOf_46 trivial (by rw [e1]) rfl
  rcases sg_iteE hF with ⟨c2, hF⟩ | ⟨c2, hF⟩
  · refine g_tsin (off := 46) C 47 1 dX5_formOf_1 c2 (by decide) (by decide) (by decide) (by decide) ?_
    refine g_ldcS 49 C (hJJ.2.2.2.1 1 (by decide)) dX5_formOf_47 rfl ?_
    have e1 := sg_someE hF
    exact g_aretX (P := fun _ => True) (ra := fun _ => jK r) (w' := fun _ => (ww_0 Y ad σ)) () C hr (Or.inl ⟨_, rfl⟩) hQ hsz dX5_formOf_49 trivial (by rw [e1]) rfl
  rcases sg_iteE hF with ⟨c3, hF⟩ | ⟨c3, hF⟩
  · refine g_tsin (off := 49) C 50 2 dX5_formOf_1 c3 (by decide) (by decide) (by decide) (by decide) ?_
    refine g_ldcS 52 C (hJJ.2.2.2.1 2 (by decide)) dX5_formOf_50 rfl ?_
    have e1 := sg_someE hF
    exact g_aretX (P := fun _ => True) (ra := fun _ => jK r) (w' := fun _ => (ww_0 Y ad σ)) () C hr (Or.inl ⟨_, rfl⟩) hQ hsz dX5_formOf_52 trivial (by rw [e1]) rfl
  rcases sg_iteE hF with ⟨c4, hF⟩ | ⟨c4, hF⟩
  · refine g_tsin (off := 52) C 53 3 dX5_formOf_1 c4 (by decide) (by decide) (by decide) (by decide) ?_
    refine g_ldcS 55 C (hJJ.2.2.2.1 3 (by decide)) dX5_formOf_53 rfl ?_
    have e1 := sg_someE hF
    exact g_aretX (P := fun _ => True) (ra := fun _ => jK r) (w' := fun _ => (ww_0 Y ad σ)) () C hr (Or.inl ⟨_, rfl⟩) hQ hsz dX5_formOf_55 trivial (by rw [e1]) rfl
  rcases sg_iteE hF with ⟨c5, hF⟩ | ⟨c5, hF⟩
  · refine g_tsin (off := 55) C 56 4 dX5_formOf_1 c5 (by decide) (by decide) (by decide) (by decide) ?_
    refine g_ldcS 58 C (hJJ.2.2.2.1 4 (by decide)) dX5_formOf_56 rfl ?_
    have e1 := sg_someE hF
    exact g_aretX (P := fun _ => True) (ra := fun _ => jK r) (w' := fun _ => (ww_0 Y ad σ)) () C hr (Or.inl ⟨_, rfl⟩) hQ hsz dX5_formOf_58 trivial (by rw [e1]) rfl
  rcases sg_iteE hF with ⟨c6, hF⟩ | ⟨c6, hF⟩
  · refine g_tsin (off := 58) C 59 5 dX5_formOf_1 c6 (by decide) (by decide) (by decide) (by decide) ?_
    refine g_ldcS 61 C (hJJ.2.2.2.1 5 (by decide)) dX5_formOf_59 rfl ?_
    have e1 := sg_someE hF
    exact g_aretX (P := fun _ => True) (ra := fun _ => jK r) (w' := fun _ => (ww_0 Y ad σ)) () C hr (Or.inl ⟨_, rfl⟩) hQ hsz dX5_formOf_61 trivial (by rw [e1]) rfl
  rcases sg_iteE hF with ⟨c7, hF⟩ | ⟨c7, hF⟩
  · refine g_tsin (off := 61) C 62 6 dX5_formOf_1 c7 (by decide) (by decide) (by decide) (by decide) ?_
    refine g_ldcS 64 C (hJJ.2.2.2.1 6 (by decide)) dX5_formOf_62 rfl ?_
    have e1 := sg_someE hF
    exact g_aretX (P := fun _ => True) (ra := fun _ => jK r) (w' := fun _ => (ww_0 Y ad σ)) () C hr (Or.inl ⟨_, rfl⟩) hQ hsz dX5_formOf_64 trivial (by rw [e1]) rfl
  have nc1 : Int32.toInt x0 ≠ 0 := sg_neT c1 (by decide)
  have nc2 : Int32.toInt x0 ≠ 1 := sg_neT c2 (by decide)
  have nc3 : Int32.toInt x0 ≠ 2 := sg_neT c3 (by decide)
  have nc4 : Int32.toInt x0 ≠ 3 := sg_neT c4 (by decide)
  have nc5 : Int32.toInt x0 ≠ 4 := sg_neT c5 (by decide)
  have nc6 : Int32.toInt x0 ≠ 5 := sg_neT c6 (by decide)
  have nc7 : Int32.toInt x0 ≠ 6 := sg_neT c7 (by decide)
  refine g_tsout C 65 dX5_formOf_1 (by omega) (by decide) ?_
  refine g_ldcS 67 C (hJJ.2.2.2.1 7 (by decide)) dX5_formOf_65 rfl ?_
  have e1 := sg_someE hF
  exact g_aretX (P := fun _ => True) (ra := fun _ => jK r) (w' := fun _ => (ww_0 Y ad σ)) () C hr (Or.inl ⟨_, rfl⟩) hQ hsz dX5_formOf_67 trivial (by rw [e1]) rfl
theorem kiX5_isDigitNext_X5 : ∀ w ∈ u_ws RX5 TX5 5, w ∈ wsX5_isDigitNext := by decide +kernel
theorem kfX5_isDigitNext_18 : Cond.fieldLink RX5 18 "WeatherMinistry$Text" "at" "I" ∈ wsX5_isDigitNext := by decide +kernel
theorem kfX5_isDigitNext_12 : Cond.fieldLink RX5 12 "WeatherMinistry$Text" "signs" "Ljava/lang/StringBuilder;" ∈ wsX5_isDigitNext := by decide +kernel
def f_X5_isDigitNext  (σ : sg_S) : Option Int32 := sg_bnd (f_J4_length_8abf5  (sg_e1 1 σ)) (fun r1 => (if σ 0 1 < r1 then sg_bnd (f_J4_charAt_5068e (σ 0 1) (sg_e1 1 σ)) (fun r3 => (if 48 ≤ r3 then sg_bnd (f_J4_charAt_5068e (σ 0 1) (sg_e1 1 σ)) (fun r5 => (if r5 ≤ 57 then some 1 else some 0)) else some 0)) else some 0))
set_option maxHeartbeats 4000000 in
set_option maxRecDepth 100000 in
theorem c_X5_isDigitNext (l : Launch) {D : va_G} {Y : Nat → ClassId} {Z : (Nat → Prop) → State → Heap → Prop} (hZ : sg_Zok Z) {jK jV jT : Nat → Nat} (hJ : sg_ZJ Z jK jV jT) {ad : Nat → Nat} {σ : sg_S} {r : Int32} (hF : f_X5_isDigitNext  σ = some r) : sg_MI l yX5_isDigitNext wsX5_isDigitNext 4 88 D Y Z [.ref (ad 0)] (ww_X5 Y ad σ) r (ww_X5 Y ad σ) := by
  intro sz
  refine sg_enter (own := RX5) (maxL := 1) (ret := (some .boolean)) (cc := cX5_isDigitNext) (by decide +kernel) rfl rfl (Nat.le_of_ble_eq_true rfl) hZ ?_
  intro p e s m args below meth c C hr Q hQ hsz
  have hJJ := hJ _ _ _ C.2.2.2.2.2.2.2.2.1
  refine g_lv (lv2 := [(0, .ref (ad 0))]) [0] rfl ?_
  rw [f_X5_isDigitNext] at hF
  refine g_aload_n 1 C dX5_isDigitNext_0 rfl rfl rfl ?_
  refine g_get 4 C (own := RX5) (C1 := RX5) (T := TX5) 0 1 (.int (σ 0 1)) kiX5_isDigitNext_X5 kfX5_isDigitNext_18 rfl dX5_isDigitNext_1 rfl rfl rfl (by decide) rfl ?_
  refine g_aload_n 5 C dX5_isDigitNext_4 rfl rfl rfl ?_
  refine g_get 8 C (own := RX5) (C1 := RX5) (T := TX5) 0 0 (.ref (ad 1)) kiX5_isDigitNext_X5 kfX5_isDigitNext_12 rfl dX5_isDigitNext_5 rfl rfl rfl (by decide) rfl ?_
  obtain ⟨r1, q2, hF⟩ := sg_bndE hF
  refine g_callVi 11 C (w2 := (ww_X5 Y ad σ)) (As := []) (st := [.int (σ 0 1)]) (n0 := 0) (ci := 1) (q0 := 1) [1, 2] [0, 3, 4, 5, 6, 7, 8, 9, 10, 11, 12, 13, 14, 15, 16] [0, 15, 16, 1, 2, 3, 4, 5, 6, 7, 8, 9, 10, 11, 12, 13, 14] (c_J4_length_8abf5 l hZ (ad := (sg_e1 1 ad)) q2) gX5_isDigitNext_J4_length_8abf5 ⟨rfl, by decide +kernel, by decide +kernel, rfl⟩ rfl ⟨Nat.le_of_ble_eq_true rfl, Nat.le_of_ble_eq_true rfl⟩ rfl rfl ⟨rfl, rfl, rfl, by decide, rfl, rfl⟩ rfl rfl (Nat.le_of_ble_eq_true rfl) ⟨Nat.le_refl _, Nat.le_refl _⟩ dX5_isDigitNext_8 rfl rfl ?_
  refine g_icmp_ge 14 50 C dX5_isDigitNext_11 (by decide) rfl hF (fun hF => ?_) (fun hF => ?_)
  · refine g_iconst 51 C 0 dX5_isDigitNext_50 rfl (by decide) ?_
    have e1 := sg_someE hF
    exact g_iret C hr rfl hQ hsz dX5_isDigitNext_51 e1.symm rfl
  · refine g_aload_n 15 C dX5_isDigitNext_14 rfl rfl rfl ?_
    refine g_get 18 C (own := RX5) (C1 := RX5) (T := TX5) 0 0 (.ref (ad 1)) kiX5_isDigitNext_X5 kfX5_isDigitNext_12 rfl dX5_isDigitNext_15 rfl rfl rfl (by decide) rfl ?_
    refine g_aload_n 19 C dX5_isDigitNext_18 rfl rfl rfl ?_
    refine g_get 22 C (own := RX5) (C1 := RX5) (T := TX5) 0 1 (.int (σ 0 1)) kiX5_isDigitNext_X5 kfX5_isDigitNext_18 rfl dX5_isDigitNext_19 rfl rfl rfl (by decide) rfl ?_
    obtain ⟨r3, q4, hF⟩ := sg_bndE hF
    refine g_callVi 25 C (w2 := (ww_X5 Y ad σ)) (As := [.int (σ 0 1)]) (st := []) (n0 := 1) (ci := 1) (q0 := 1) [1, 2] [0, 3, 4, 5, 6, 7, 8, 9, 10, 11, 12, 13, 14, 15, 16] [0, 15, 16, 1, 2, 3, 4, 5, 6, 7, 8, 9, 10, 11, 12, 13, 14] (c_J4_charAt_5068e l hZ hJ (ad := (sg_e1 1 ad)) q4) gX5_isDigitNext_J4_charAt_5068e ⟨rfl, by decide +kernel, by decide +kernel, rfl⟩ rfl ⟨Nat.le_of_ble_eq_true rfl, Nat.le_of_ble_eq_true rfl⟩ rfl rfl ⟨rfl, rfl, rfl, by decide, rfl, rfl⟩ rfl rfl (Nat.le_of_ble_eq_true rfl) ⟨Nat.le_refl _, Nat.le_refl _⟩ dX5_isDigitNext_22 rfl rfl ?_
    refine g_bipush 27 C 48 dX5_isDigitNext_25 rfl (by decide) ?_
    refine g_icmp_lt 30 50 C dX5_isDigitNext_27 (by decide) rfl hF (fun hF => ?_) (fun hF => ?_)
    · refine g_iconst 51 C 0 dX5_isDigitNext_50 rfl (by decide) ?_
      have e1 := sg_someE hF
      exact g_iret C hr rfl hQ hsz dX5_isDigitNext_51 e1.symm rfl
    · refine g_aload_n 31 C dX5_isDigitNext_30 rfl rfl rfl ?_
      refine g_get 34 C (own := RX5) (C1 := RX5) (T := TX5) 0 0 (.ref (ad 1)) kiX5_isDigitNext_X5 kfX5_isDigitNext_12 rfl dX5_isDigitNext_31 rfl rfl rfl (by decide) rfl ?_
      refine g_aload_n 35 C dX5_isDigitNext_34 rfl rfl rfl ?_
      refine g_get 38 C (own := RX5) (C1 := RX5) (T := TX5) 0 1 (.int (σ 0 1)) kiX5_isDigitNext_X5 kfX5_isDigitNext_18 rfl dX5_isDigitNext_35 rfl rfl rfl (by decide) rfl ?_
      obtain ⟨r5, q6, hF⟩ := sg_bndE hF
      refine g_callVi 41 C (w2 := (ww_X5 Y ad σ)) (As := [.int (σ 0 1)]) (st := []) (n0 := 1) (ci := 1) (q0 := 1) [1, 2] [0, 3, 4, 5, 6, 7, 8, 9, 10, 11, 12, 13, 14, 15, 16] [0, 15, 16, 1, 2, 3, 4, 5, 6, 7, 8, 9, 10, 11, 12, 13, 14] (c_J4_charAt_5068e l hZ hJ (ad := (sg_e1 1 ad)) q6) gX5_isDigitNext_J4_charAt_5068e ⟨rfl, by decide +kernel, by decide +kernel, rfl⟩ rfl ⟨Nat.le_of_ble_eq_true rfl, Nat.le_of_ble_eq_true rfl⟩ rfl rfl ⟨rfl, rfl, rfl, by decide, rfl, rfl⟩ rfl rfl (Nat.le_of_ble_eq_true rfl) ⟨Nat.le_refl _, Nat.le_refl _⟩ dX5_isDigitNext_38 rfl rfl ?_
      refine g_bipush 43 C 57 dX5_isDigitNext_41 rfl (by decide) ?_
      refine g_icmp_gt 46 50 C dX5_isDigitNext_43 (by decide) rfl hF (fun hF => ?_) (fun hF => ?_)
      · refine g_iconst 51 C 0 dX5_isDigitNext_50 rfl (by decide) ?_
        have e1 := sg_someE hF
        exact g_iret C hr rfl hQ hsz dX5_isDigitNext_51 e1.symm rfl
      · refine g_iconst 47 C 1 dX5_isDigitNext_46 rfl (by decide) ?_
        refine g_goto 51 C dX5_isDigitNext_47 (by decide) ?_
        have e1 := sg_someE hF
        exact g_iret C hr rfl hQ hsz dX5_isDigitNext_51 e1.symm rfl
theorem kiX5_isSignTaken_X5 : ∀ w ∈ u_ws RX5 TX5 5, w ∈ wsX5_isSignTaken := by decide +kernel
theorem kfX5_isSignTaken_18 : Cond.fieldLink RX5 18 "WeatherMinistry$Text" "at" "I" ∈ wsX5_isSignTaken := by decide +kernel
theorem kfX5_isSignTaken_12 : Cond.fieldLink RX5 12 "WeatherMinistry$Text" "signs" "Ljava/lang/StringBuilder;" ∈ wsX5_isSignTaken := by decide +kernel
def f_X5_isSignTaken (x1 : Int32) (σ : sg_S) : Option (Int32 × sg_S) := sg_bnd (f_J4_length_8abf5  (sg_e1 1 σ)) (fun r1 => (if σ 0 1 < r1 then sg_bnd (f_J4_charAt_5068e (σ 0 1) (sg_e1 1 σ)) (fun r3 => (if r3 = x1 then sg_let (sg_up σ 0 1 ((σ 0 1) + 1)) (fun σ5 => some (1, σ5)) else some (0, σ))) else some (0, σ)))
set_option maxHeartbeats 4000000 in
set_option maxRecDepth 100000 in
theorem c_X5_isSignTaken (l : Launch) {D : va_G} {Y : Nat → ClassId} {Z : (Nat → Prop) → State → Heap → Prop} (hZ : sg_Zok Z) {jK jV jT : Nat → Nat} (hJ : sg_ZJ Z jK jV jT) {ad : Nat → Nat} {σ : sg_S} {σ' : sg_S} {x1 : Int32} {r : Int32} (hF : f_X5_isSignTaken x1 σ = some (r, σ')) : sg_MI l yX5_isSignTaken wsX5_isSignTaken 4 88 D Y Z [.ref (ad 0), .int x1] (ww_X5 Y ad σ) r (ww_X5 Y ad σ') := by
  intro sz
  refine sg_enter (own := RX5) (maxL := 2) (ret := (some .boolean)) (cc := cX5_isSignTaken) (by decide +kernel) rfl rfl (Nat.le_of_ble_eq_true rfl) hZ ?_
  intro p e s m args below meth c C hr Q hQ hsz
  have hJJ := hJ _ _ _ C.2.2.2.2.2.2.2.2.1
  refine g_lv (lv2 := [(0, .ref (ad 0)), (1, .int x1)]) [0, 1] rfl ?_
  rw [f_X5_isSignTaken] at hF
  refine g_aload_n 1 C dX5_isSignTaken_0 rfl rfl rfl ?_
  refine g_get 4 C (own := RX5) (C1 := RX5) (T := TX5) 0 1 (.int (σ 0 1)) kiX5_isSignTaken_X5 kfX5_isSignTaken_18 rfl dX5_isSignTaken_1 rfl rfl rfl (by decide) rfl ?_
  refine g_aload_n 5 C dX5_isSignTaken_4 rfl rfl rfl ?_
  refine g_get 8 C (own := RX5) (C1 := RX5) (T := TX5) 0 0 (.ref (ad 1)) kiX5_isSignTaken_X5 kfX5_isSignTaken_12 rfl dX5_isSignTaken_5 rfl rfl rfl (by decide) rfl ?_
  obtain ⟨r1, q2, hF⟩ := sg_bndE hF
  refine g_callVi 11 C (w2 := (ww_X5 Y ad σ)) (As := []) (st := [.int (σ 0 1)]) (n0 := 0) (ci := 1) (q0 := 1) [1, 2] [0, 3, 4, 5, 6, 7, 8, 9, 10, 11, 12, 13, 14, 15, 16] [0, 15, 16, 1, 2, 3, 4, 5, 6, 7, 8, 9, 10, 11, 12, 13, 14] (c_J4_length_8abf5 l hZ (ad := (sg_e1 1 ad)) q2) gX5_isSignTaken_J4_length_8abf5 ⟨rfl, by decide +kernel, by decide +kernel, rfl⟩ rfl ⟨Nat.le_of_ble_eq_true rfl, Nat.le_of_ble_eq_true rfl⟩ rfl rfl ⟨rfl, rfl, rfl, by decide, rfl, rfl⟩ rfl rfl (Nat.le_of_ble_eq_true rfl) ⟨Nat.le_refl _, Nat.le_refl _⟩ dX5_isSignTaken_8 rfl rfl ?_
  refine g_icmp_ge 14 41 C dX5_isSignTaken_11 (by decide) rfl hF (fun hF => ?_) (fun hF => ?_)
  · refine g_iconst 42 C 0 dX5_isSignTaken_41 rfl (by decide) ?_
    obtain ⟨e1, e2⟩ := sg_pairE hF
    exact g_iret C hr rfl hQ hsz dX5_isSignTaken_42 e1.symm (by rw [e2])
  · refine g_aload_n 15 C dX5_isSignTaken_14 rfl rfl rfl ?_
    refine g_get 18 C (own := RX5) (C1 := RX5) (T := TX5) 0 0 (.ref (ad 1)) kiX5_isSignTaken_X5 kfX5_isSignTaken_12 rfl dX5_isSignTaken_15 rfl rfl rfl (by decide) rfl ?_
    refine g_aload_n 19 C dX5_isSignTaken_18 rfl rfl rfl ?_
    refine g_get 22 C (own := RX5) (C1 := RX5) (T := TX5) 0 1 (.int (σ 0 1)) kiX5_isSignTaken_X5 kfX5_isSignTaken_18 rfl dX5_isSignTaken_19 rfl rfl rfl (by decide) rfl ?_
    obtain ⟨r3, q4, hF⟩ := sg_bndE hF
    refine g_callVi 25 C (w2 := (ww_X5 Y ad σ)) (As := [.int (σ 0 1)]) (st := []) (n0 := 1) (ci := 1) (q0 := 1) [1, 2] [0, 3, 4, 5, 6, 7, 8, 9, 10, 11, 12, 13, 14, 15, 16] [0, 15, 16, 1, 2, 3, 4, 5, 6, 7, 8, 9, 10, 11, 12, 13, 14] (c_J4_charAt_5068e l hZ hJ (ad := (sg_e1 1 ad)) q4) gX5_isSignTaken_J4_charAt_5068e ⟨rfl, by decide +kernel, by decide +kernel, rfl⟩ rfl ⟨Nat.le_of_ble_eq_true rfl, Nat.le_of_ble_eq_true rfl⟩ rfl rfl ⟨rfl, rfl, rfl, by decide, rfl, rfl⟩ rfl rfl (Nat.le_of_ble_eq_true rfl) ⟨Nat.le_refl _, Nat.le_refl _⟩ dX5_isSignTaken_22 rfl rfl ?_
    refine g_iload_n 26 C dX5_isSignTaken_25 rfl rfl rfl ?_
    refine g_icmp_ne 29 41 C dX5_isSignTaken_26 (by decide) rfl hF (fun hF => ?_) (fun hF => ?_)
    · refine g_iconst 42 C 0 dX5_isSignTaken_41 rfl (by decide) ?_
      obtain ⟨e1, e2⟩ := sg_pairE hF
      exact g_iret C hr rfl hQ hsz dX5_isSignTaken_42 e1.symm (by rw [e2])
    · refine g_aload_n 30 C dX5_isSignTaken_29 rfl rfl rfl ?_
      refine g_dup 31 C dX5_isSignTaken_30 rfl rfl ?_
      refine g_get 34 C (own := RX5) (C1 := RX5) (T := TX5) 0 1 (.int (σ 0 1)) kiX5_isSignTaken_X5 kfX5_isSignTaken_18 rfl dX5_isSignTaken_31 rfl rfl rfl (by decide) rfl ?_
      refine g_iconst 35 C 1 dX5_isSignTaken_34 rfl (by decide) ?_
      refine g_iadd 36 C dX5_isSignTaken_35 rfl ?_
      obtain ⟨σ5, eσ5, hF⟩ := sg_letE hF
      refine g_put 39 C (own := RX5) (C1 := RX5) (T := TX5) (w2 := (ww_X5 Y ad σ5)) 0 1 tyX5 tyX5_ok nmX5 kiX5_isSignTaken_X5 kfX5_isSignTaken_18 rfl rfl (ty := .int) (by decide) rfl rfl (sg_blt rfl) dX5_isSignTaken_36 rfl rfl rfl (by decide) (by rw [eσ5]; rfl) ?_
      refine g_iconst 40 C 1 dX5_isSignTaken_39 rfl (by decide) ?_
      obtain ⟨e1, e2⟩ := sg_pairE hF
      exact g_iret C hr rfl hQ hsz dX5_isSignTaken_40 e1.symm (by rw [e2])
theorem kiX5_isNumberTaken_X5 : ∀ w ∈ u_ws RX5 TX5 5, w ∈ wsX5_isNumberTaken := by decide +kernel
theorem kfX5_isNumberTaken_22 : Cond.fieldLink RX5 22 "WeatherMinistry$Text" "count" "I" ∈ wsX5_isNumberTaken := by decide +kernel
theorem kfX5_isNumberTaken_31 : Cond.fieldLink RX5 31 "WeatherMinistry$Text" "numbers" "[[I" ∈ wsX5_isNumberTaken := by decide +kernel
theorem kfX5_isNumberTaken_12 : Cond.fieldLink RX5 12 "WeatherMinistry$Text" "signs" "Ljava/lang/StringBuilder;" ∈ wsX5_isNumberTaken := by decide +kernel
theorem kfX5_isNumberTaken_18 : Cond.fieldLink RX5 18 "WeatherMinistry$Text" "at" "I" ∈ wsX5_isNumberTaken := by decide +kernel
def f_X5_isNumberTaken_J80 (x1 : Int32) (x2 : Int32) (z4 : Int32) (σz : sg_S) : Option (Int32 × sg_S) := (if 0 < z4 then some (1, σz) else some (0, σz))
def f_X5_isNumberTaken_J54 (x1 : Int32) (x2 : Int32) (z3 : Int32) (z4 : Int32) (σz : sg_S) : Option (Int32 × sg_S) := (if σz 0 2 < 12 then (if x2 < 3 then sg_grd (sg_in (σz 0 2) 12) (sg_let ((σz 0 2).toNatClampNeg) (fun k2 => sg_grd (sg_in x2 3) (sg_let (sg_up σz (5 + 1 * k2) (x2.toNatClampNeg) z3) (fun σ4 => f_X5_isNumberTaken_J80 x1 x2 z4 σ4)))) else f_X5_isNumberTaken_J80 x1 x2 z4 σz) else f_X5_isNumberTaken_J80 x1 x2 z4 σz)
def f_X5_isNumberTaken_L5 (x1 : Int32) (x2 : Int32) : Nat → Int32 → Int32 → sg_S → Option (Int32 × sg_S)
  | 0, _, _, _ => none
  | nz + 1, z3, z4, σz => (if z4 < x1 then sg_bnd (f_X5_isDigitNext  σz) (fun r5 => (if r5 = 0 then f_X5_isNumberTaken_J54 x1 x2 z3 z4 σz else sg_bnd (f_J4_charAt_5068e (σz 0 1) (sg_e1 1 σz)) (fun r7 => sg_let (((10 * z3) + r7) - 48) (fun y9 => sg_let (sg_up σz 0 1 ((σz 0 1) + 1)) (fun σ10 => f_X5_isNumberTaken_L5 x1 x2 nz y9 (z4 + 1) σ10))))) else f_X5_isNumberTaken_J54 x1 x2 z3 z4 σz)
def f_X5_isNumberTaken (x1 : Int32) (x2 : Int32) (σ : sg_S) : Option (Int32 × sg_S) := f_X5_isNumberTaken_L5 x1 x2 1000 0 0 σ
set_option maxHeartbeats 4000000 in
set_option maxRecDepth 100000 in
theorem c_X5_isNumberTaken (l : Launch) {D : va_G} {Y : Nat → ClassId} {Z : (Nat → Prop) → State → Heap → Prop} (hZ : sg_Zok Z) {jK jV jT : Nat → Nat} (hJ : sg_ZJ Z jK jV jT) {ad : Nat → Nat} {σ : sg_S} {σ' : sg_S} {x1 x2 : Int32} {r : Int32} (hF : f_X5_isNumberTaken x1 x2 σ = some (r, σ')) : sg_MI l yX5_isNumberTaken wsX5_isNumberTaken 5 108 D Y Z [.ref (ad 0), .int x1, .int x2] (ww_X5 Y ad σ) r (ww_X5 Y ad σ') := by
  intro sz
  refine sg_enter (own := RX5) (maxL := 5) (ret := (some .boolean)) (cc := cX5_isNumberTaken) (by decide +kernel) rfl rfl (Nat.le_of_ble_eq_true rfl) hZ ?_
  intro p e s m args below meth c C hr Q hQ hsz
  have hJJ := hJ _ _ _ C.2.2.2.2.2.2.2.2.1
  refine g_lv (lv2 := [(0, .ref (ad 0)), (1, .int x1), (2, .int x2)]) [0, 1, 2] rfl ?_
  have K80 : ∀ (z4 : Int32) (σz : sg_S), f_X5_isNumberTaken_J80 x1 x2 z4 σz = some (r, σ') → sg_G p l e ({ frames := 5, cells := 0, slots := 0, locals := 108 } : Room) s m args below meth c D (va_A (ww_X5 Y ad σ) s.heap.size) 5 0 0 Q 80 [(4, .int z4)] [] (ww_X5 Y ad σz) := by
    intro  z4 σz hF
    rw [f_X5_isNumberTaken_J80] at hF
    refine g_iload 82 C dX5_isNumberTaken_80 rfl rfl ?_
    refine g_if_le 85 89 C dX5_isNumberTaken_82 (by decide) rfl hF (fun hF => ?_) (fun hF => ?_)
    · refine g_iconst 90 C 0 dX5_isNumberTaken_89 rfl (by decide) ?_
      obtain ⟨e1, e2⟩ := sg_pairE hF
      exact g_iret C hr rfl hQ hsz dX5_isNumberTaken_90 e1.symm (by rw [e2])
    · refine g_iconst 86 C 1 dX5_isNumberTaken_85 rfl (by decide) ?_
      refine g_goto 90 C dX5_isNumberTaken_86 (by decide) ?_
      obtain ⟨e1, e2⟩ := sg_pairE hF
      exact g_iret C hr rfl hQ hsz dX5_isNumberTaken_90 e1.symm (by rw [e2])
  have K54 : ∀ (z3 : Int32) (z4 : Int32) (σz : sg_S), f_X5_isNumberTaken_J54 x1 x2 z3 z4 σz = some (r, σ') → sg_G p l e ({ frames := 5, cells := 0, slots := 0, locals := 108 } : Room) s m args below meth c D (va_A (ww_X5 Y ad σ) s.heap.size) 5 0 0 Q 54 [(0, .ref (ad 0)), (2, .int x2), (3, .int z3), (4, .int z4)] [] (ww_X5 Y ad σz) := by
    intro  z3 z4 σz hF
    rw [f_X5_isNumberTaken_J54] at hF
    refine g_aload_n 55 C dX5_isNumberTaken_54 rfl rfl rfl ?_
    refine g_get 58 C (own := RX5) (C1 := RX5) (T := TX5) 0 2 (.int (σz 0 2)) kiX5_isNumberTaken_X5 kfX5_isNumberTaken_22 rfl dX5_isNumberTaken_55 rfl rfl rfl (by decide) rfl ?_
    refine g_bipush 60 C 12 dX5_isNumberTaken_58 rfl (by decide) ?_
    refine g_icmp_ge 63 80 C dX5_isNumberTaken_60 (by decide) rfl hF (fun hF => ?_) (fun hF => ?_)
    · refine g_lv (lv2 := [(4, .int z4)]) [3] rfl ?_
      exact K80  z4 σz hF
    · refine g_iload_n 64 C dX5_isNumberTaken_63 rfl rfl rfl ?_
      refine g_iconst 65 C 3 dX5_isNumberTaken_64 rfl (by decide) ?_
      refine g_icmp_ge 68 80 C dX5_isNumberTaken_65 (by decide) rfl hF (fun hF => ?_) (fun hF => ?_)
      · refine g_lv (lv2 := [(4, .int z4)]) [3] rfl ?_
        exact K80  z4 σz hF
      · refine g_aload_n 69 C dX5_isNumberTaken_68 rfl rfl rfl ?_
        refine g_get 72 C (own := RX5) (C1 := RX5) (T := TX5) 0 4 (.ref (ad 4)) kiX5_isNumberTaken_X5 kfX5_isNumberTaken_31 rfl dX5_isNumberTaken_69 rfl rfl rfl (by decide) rfl ?_
        refine g_aload_n 73 C dX5_isNumberTaken_72 rfl rfl rfl ?_
        refine g_get 76 C (own := RX5) (C1 := RX5) (T := TX5) 0 2 (.int (σz 0 2)) kiX5_isNumberTaken_X5 kfX5_isNumberTaken_22 rfl dX5_isNumberTaken_73 rfl rfl rfl (by decide) rfl ?_
        obtain ⟨h1, hF⟩ := sg_grdE hF
        obtain ⟨k2, ek2, hF⟩ := sg_letE hF
        have hk2 : k2 < 12 := by rw [ek2]; exact sg_inN h1
        refine g_aaldI 77 C (k := k2) 4 (.ref (ad (5 + 1 * k2))) h1 ek2 rfl dX5_isNumberTaken_76 rfl rfl ?_
        refine g_iload_n 78 C dX5_isNumberTaken_77 rfl rfl rfl ?_
        refine g_iload_n 79 C dX5_isNumberTaken_78 rfl rfl rfl ?_
        obtain ⟨h3, hF⟩ := sg_grdE hF
        obtain ⟨σ4, eσ4, hF⟩ := sg_letE hF
        refine g_iast 80 C (w2 := (ww_X5 Y ad σ4)) (N := 3) (f := σz (5 + 1 * k2)) (5 + 1 * k2) dX5_isNumberTaken_79 rfl (by rcases sg_lt12 hk2 with rfl | rfl | rfl | rfl | rfl | rfl | rfl | rfl | rfl | rfl | rfl | rfl <;> rfl) h3 (by rw [eσ4]; rcases sg_lt12 hk2 with rfl | rfl | rfl | rfl | rfl | rfl | rfl | rfl | rfl | rfl | rfl | rfl <;> rfl) ?_
        refine g_lv (lv2 := [(4, .int z4)]) [3] rfl ?_
        exact K80  z4 σ4 hF
  have K5 : ∀ (nz : Nat), ∀ (z3 : Int32) (z4 : Int32) (σz : sg_S), f_X5_isNumberTaken_L5 x1 x2 nz z3 z4 σz = some (r, σ') → sg_G p l e ({ frames := 5, cells := 0, slots := 0, locals := 108 } : Room) s m args below meth c D (va_A (ww_X5 Y ad σ) s.heap.size) 5 0 0 Q 5 [(0, .ref (ad 0)), (1, .int x1), (2, .int x2), (3, .int z3), (4, .int z4)] [] (ww_X5 Y ad σz) := by
    intro nz
    induction nz with
    | zero =>
      intro z3 z4 σz hF
      rw [f_X5_isNumberTaken_L5.eq_1] at hF
      exact nomatch hF
    | succ nz ih =>
      intro z3 z4 σz hF
      rw [f_X5_isNumberTaken_L5.eq_2] at hF
      refine g_iload 7 C dX5_isNumberTaken_5 rfl rfl ?_
      refine g_iload_n 8 C dX5_isNumberTaken_7 rfl rfl rfl ?_
      refine g_icmp_ge 11 54 C dX5_isNumberTaken_8 (by decide) rfl hF (fun hF => ?_) (fun hF => ?_)
      · refine g_lv (lv2 := [(0, .ref (ad 0)), (2, .int x2), (3, .int z3), (4, .int z4)]) [0, 2, 3, 4] rfl ?_
        exact K54  z3 z4 σz hF
      · refine g_aload_n 12 C dX5_isNumberTaken_11 rfl rfl rfl ?_
        obtain ⟨r5, q6, hF⟩ := sg_bndE hF
        refine g_callVi 15 C (w2 := (ww_X5 Y ad σz)) (As := []) (st := []) (n0 := 0) (ci := 7) (q0 := 0) [0, 1, 2, 3, 4, 5, 6, 7, 8, 9, 10, 11, 12, 13, 14, 15, 16] [] [0, 1, 2, 3, 4, 5, 6, 7, 8, 9, 10, 11, 12, 13, 14, 15, 16] (c_X5_isDigitNext l hZ hJ (ad := ad) q6) gX5_isNumberTaken_X5_isDigitNext ⟨rfl, by decide +kernel, by decide +kernel, rfl⟩ rfl ⟨Nat.le_of_ble_eq_true rfl, Nat.le_of_ble_eq_true rfl⟩ rfl rfl ⟨rfl, rfl, rfl, by decide, rfl, rfl⟩ rfl rfl (Nat.le_of_ble_eq_true rfl) ⟨Nat.le_refl _, Nat.le_refl _⟩ dX5_isNumberTaken_12 rfl rfl ?_
        refine g_if_eq 18 54 C dX5_isNumberTaken_15 (by decide) rfl hF (fun hF => ?_) (fun hF => ?_)
        · refine g_lv (lv2 := [(0, .ref (ad 0)), (2, .int x2), (3, .int z3), (4, .int z4)]) [0, 2, 3, 4] rfl ?_
          exact K54  z3 z4 σz hF
        · refine g_bipush 20 C 10 dX5_isNumberTaken_18 rfl (by decide) ?_
          refine g_iload_n 21 C dX5_isNumberTaken_20 rfl rfl rfl ?_
          refine g_imul 22 C dX5_isNumberTaken_21 rfl ?_
          refine g_aload_n 23 C dX5_isNumberTaken_22 rfl rfl rfl ?_
          refine g_get 26 C (own := RX5) (C1 := RX5) (T := TX5) 0 0 (.ref (ad 1)) kiX5_isNumberTaken_X5 kfX5_isNumberTaken_12 rfl dX5_isNumberTaken_23 rfl rfl rfl (by decide) rfl ?_
          refine g_aload_n 27 C dX5_isNumberTaken_26 rfl rfl rfl ?_
          refine g_get 30 C (own := RX5) (C1 := RX5) (T := TX5) 0 1 (.int (σz 0 1)) kiX5_isNumberTaken_X5 kfX5_isNumberTaken_18 rfl dX5_isNumberTaken_27 rfl rfl rfl (by decide) rfl ?_
          obtain ⟨r7, q8, hF⟩ := sg_bndE hF
          refine g_callVi 33 C (w2 := (ww_X5 Y ad σz)) (As := [.int (σz 0 1)]) (st := [.int (10 * z3)]) (n0 := 1) (ci := 1) (q0 := 1) [1, 2] [0, 3, 4, 5, 6, 7, 8, 9, 10, 11, 12, 13, 14, 15, 16] [0, 15, 16, 1, 2, 3, 4, 5, 6, 7, 8, 9, 10, 11, 12, 13, 14] (c_J4_charAt_5068e l hZ hJ (ad := (sg_e1 1 ad)) q8) gX5_isNumberTaken_J4_charAt_5068e ⟨rfl, by decide +kernel, by decide +kernel, rfl⟩ rfl ⟨Nat.le_of_ble_eq_true rfl, Nat.le_of_ble_eq_true rfl⟩ rfl rfl ⟨rfl, rfl, rfl, by decide, rfl, rfl⟩ rfl rfl (Nat.le_of_ble_eq_true rfl) ⟨Nat.le_refl _, Nat.le_refl _⟩ dX5_isNumberTaken_30 rfl rfl ?_
          refine g_iadd 34 C dX5_isNumberTaken_33 rfl ?_
          refine g_bipush 36 C 48 dX5_isNumberTaken_34 rfl (by decide) ?_
          refine g_isub 37 C dX5_isNumberTaken_36 rfl ?_
          obtain ⟨y9, ey9, hF⟩ := sg_letE hF
          refine g_top ey9 ?_
          refine g_istore_n 38 C [(3, .int y9), (0, .ref (ad 0)), (1, .int x1), (2, .int x2), (4, .int z4)] dX5_isNumberTaken_37 rfl rfl (by decide) rfl ?_
          refine g_aload_n 39 C dX5_isNumberTaken_38 rfl rfl rfl ?_
          refine g_dup 40 C dX5_isNumberTaken_39 rfl rfl ?_
          refine g_get 43 C (own := RX5) (C1 := RX5) (T := TX5) 0 1 (.int (σz 0 1)) kiX5_isNumberTaken_X5 kfX5_isNumberTaken_18 rfl dX5_isNumberTaken_40 rfl rfl rfl (by decide) rfl ?_
          refine g_iconst 44 C 1 dX5_isNumberTaken_43 rfl (by decide) ?_
          refine g_iadd 45 C dX5_isNumberTaken_44 rfl ?_
          obtain ⟨σ10, eσ10, hF⟩ := sg_letE hF
          refine g_put 48 C (own := RX5) (C1 := RX5) (T := TX5) (w2 := (ww_X5 Y ad σ10)) 0 1 tyX5 tyX5_ok nmX5 kiX5_isNumberTaken_X5 kfX5_isNumberTaken_18 rfl rfl (ty := .int) (by decide) rfl rfl (sg_blt rfl) dX5_isNumberTaken_45 rfl rfl rfl (by decide) (by rw [eσ10]; rfl) ?_
          refine g_iinc 51 C 4 (z4 + 1) [(4, .int (z4 + 1)), (3, .int y9), (0, .ref (ad 0)), (1, .int x1), (2, .int x2)] dX5_isNumberTaken_48 rfl rfl rfl (by decide) rfl ?_
          refine g_goto 5 C dX5_isNumberTaken_51 (by decide) ?_
          refine g_lv (lv2 := [(0, .ref (ad 0)), (1, .int x1), (2, .int x2), (3, .int y9), (4, .int (z4 + 1))]) [2, 3, 4, 1, 0] rfl ?_
          exact ih y9 (z4 + 1) σ10 hF
  rw [f_X5_isNumberTaken] at hF
  refine g_iconst 1 C 0 dX5_isNumberTaken_0 rfl (by decide) ?_
  refine g_istore_n 2 C [(3, .int 0), (0, .ref (ad 0)), (1, .int x1), (2, .int x2)] dX5_isNumberTaken_1 rfl rfl (by decide) rfl ?_
  refine g_iconst 3 C 0 dX5_isNumberTaken_2 rfl (by decide) ?_
  refine g_istore 5 C [(4, .int 0), (3, .int 0), (0, .ref (ad 0)), (1, .int x1), (2, .int x2)] dX5_isNumberTaken_3 rfl (by decide) rfl ?_
  refine g_lv (lv2 := [(0, .ref (ad 0)), (1, .int x1), (2, .int x2), (3, .int 0), (4, .int 0)]) [2, 3, 4, 1, 0] rfl ?_
  exact K5  1000 0 0 σ hF
def f_X5_isFormTaken_J33 (k : Nat) (κ4 : Int32 → Int32 → sg_S → Option (Int32 × sg_S)) (z2 : Int32) (z3 : Int32) (z4 : Int32) (σz : sg_S) : Option (Int32 × sg_S) := sg_bnd2 (f_X5_isNumberTaken (z4 - 48) z2 σz) (fun r7 τ5 => (if r7 = 0 then some (0, τ5) else κ4 (z2 + 1) (z3 + 1) τ5))
def f_X5_isFormTaken_L4 (k : Nat) : Nat → Int32 → Int32 → sg_S → Option (Int32 × sg_S)
  | 0, _, _, _ => none
  | nz + 1, z2, z3, σz => sg_bnd (f_J0_length_8abf5 k) (fun r1 => (if z3 < r1 then sg_bnd (f_J0_charAt_5068e k z3) (fun r3 => (if r3 = 49 then f_X5_isFormTaken_J33 k (fun z2' z3' σz' => f_X5_isFormTaken_L4 k nz z2' z3' σz') z2 z3 r3 σz else (if r3 = 50 then f_X5_isFormTaken_J33 k (fun z2' z3' σz' => f_X5_isFormTaken_L4 k nz z2' z3' σz') z2 z3 r3 σz else sg_bnd2 (f_X5_isSignTaken r3 σz) (fun r10 τ8 => (if r10 = 0 then some (0, τ8) else f_X5_isFormTaken_L4 k nz z2 (z3 + 1) τ8))))) else some (1, σz)))
def f_X5_isFormTaken (k : Nat) (σ : sg_S) : Option (Int32 × sg_S) := f_X5_isFormTaken_L4 k 1000 0 0 σ
set_option maxHeartbeats 4000000 in
set_option maxRecDepth 100000 in
theorem c_X5_isFormTaken (l : Launch) {D : va_G} {Y : Nat → ClassId} {Z : (Nat → Prop) → State → Heap → Prop} (hZ : sg_Zok Z) {jK jV jT : Nat → Nat} (hJ : sg_ZJ Z jK jV jT) {k : Nat} (hk : k < 8) {ad : Nat → Nat} {σ : sg_S} {σ' : sg_S} {r : Int32} (hF : f_X5_isFormTaken k σ = some (r, σ')) : sg_MI l yX5_isFormTaken wsX5_isFormTaken 6 132 D Y Z [.ref (ad 0), .ref (jK k)] (ww_X5 Y ad σ) r (ww_X5 Y ad σ') := by
  intro sz
  refine sg_enter (own := RX5) (maxL := 5) (ret := (some .boolean)) (cc := cX5_isFormTaken) (by decide +kernel) rfl rfl (Nat.le_of_ble_eq_true rfl) hZ ?_
  intro p e s m args below meth c C hr Q hQ hsz
  have hJJ := hJ _ _ _ C.2.2.2.2.2.2.2.2.1
  refine g_lv (lv2 := [(0, .ref (ad 0)), (1, .ref (jK k))]) [0, 1] rfl ?_
  have K33 : ∀ (κ4 : Int32 → Int32 → sg_S → Option (Int32 × sg_S)), (∀ (z2 : Int32) (z3 : Int32) (σz : sg_S), κ4 z2 z3 σz = some (r, σ') → sg_G p l e ({ frames := 6, cells := 0, slots := 0, locals := 132 } : Room) s m args below meth c D (va_A (ww_X5 Y ad σ) s.heap.size) 5 0 0 Q 4 [(0, .ref (ad 0)), (1, .ref (jK k)), (2, .int z2), (3, .int z3)] [] (ww_X5 Y ad σz)) → ∀ (z2 : Int32) (z3 : Int32) (z4 : Int32) (σz : sg_S), f_X5_isFormTaken_J33 k κ4 z2 z3 z4 σz = some (r, σ') → sg_G p l e ({ frames := 6, cells := 0, slots := 0, locals := 132 } : Room) s m args below meth c D (va_A (ww_X5 Y ad σ) s.heap.size) 5 0 0 Q 33 [(0, .ref (ad 0)), (1, .ref (jK k)), (2, .int z2), (3, .int z3), (4, .int z4)] [] (ww_X5 Y ad σz) := by
    intro κ4 hκ4 z2 z3 z4 σz hF
    rw [f_X5_isFormTaken_J33] at hF
    refine g_aload_n 34 C dX5_isFormTaken_33 rfl rfl rfl ?_
    refine g_iload 36 C dX5_isFormTaken_34 rfl rfl ?_
    refine g_bipush 38 C 48 dX5_isFormTaken_36 rfl (by decide) ?_
    refine g_isub 39 C dX5_isFormTaken_38 rfl ?_
    refine g_iload_n 40 C dX5_isFormTaken_39 rfl rfl rfl ?_
    obtain ⟨r7, τ5, q6, hF⟩ := sg_bnd2E hF
    refine g_callVi 43 C (w2 := (ww_X5 Y ad τ5)) (As := [.int (z4 - 48), .int z2]) (st := []) (n0 := 2) (ci := 7) (q0 := 0) [0, 1, 2, 3, 4, 5, 6, 7, 8, 9, 10, 11, 12, 13, 14, 15, 16] [] [0, 1, 2, 3, 4, 5, 6, 7, 8, 9, 10, 11, 12, 13, 14, 15, 16] (c_X5_isNumberTaken l hZ hJ (ad := ad) q6) gX5_isFormTaken_X5_isNumberTaken ⟨rfl, by decide +kernel, by decide +kernel, rfl⟩ rfl ⟨Nat.le_of_ble_eq_true rfl, Nat.le_of_ble_eq_true rfl⟩ rfl rfl ⟨rfl, rfl, rfl, by decide, rfl, rfl⟩ rfl rfl (Nat.le_of_ble_eq_true rfl) ⟨Nat.le_refl _, Nat.le_refl _⟩ dX5_isFormTaken_40 rfl rfl ?_
    refine g_if_ne 46 48 C dX5_isFormTaken_43 (by decide) rfl hF (fun hF => ?_) (fun hF => ?_)
    · refine g_iinc 51 C 2 (z2 + 1) [(2, .int (z2 + 1)), (0, .ref (ad 0)), (1, .ref (jK k)), (3, .int z3), (4, .int z4)] dX5_isFormTaken_48 rfl rfl rfl (by decide) rfl ?_
      refine g_goto 65 C dX5_isFormTaken_51 (by decide) ?_
      refine g_iinc 68 C 3 (z3 + 1) [(3, .int (z3 + 1)), (2, .int (z2 + 1)), (0, .ref (ad 0)), (1, .ref (jK k)), (4, .int z4)] dX5_isFormTaken_65 rfl rfl rfl (by decide) rfl ?_
      refine g_goto 4 C dX5_isFormTaken_68 (by decide) ?_
      refine g_lv (lv2 := [(0, .ref (ad 0)), (1, .ref (jK k)), (2, .int (z2 + 1)), (3, .int (z3 + 1))]) [2, 3, 1, 0] rfl ?_
      exact hκ4 (z2 + 1) (z3 + 1) τ5 hF
    · refine g_iconst 47 C 0 dX5_isFormTaken_46 rfl (by decide) ?_
      obtain ⟨e1, e2⟩ := sg_pairE hF
      exact g_iret C hr rfl hQ hsz dX5_isFormTaken_47 e1.symm (by rw [e2])
  have K4 : ∀ (nz : Nat), ∀ (z2 : Int32) (z3 : Int32) (σz : sg_S), f_X5_isFormTaken_L4 k nz z2 z3 σz = some (r, σ') → sg_G p l e ({ frames := 6, cells := 0, slots := 0, locals := 132 } : Room) s m args below meth c D (va_A (ww_X5 Y ad σ) s.heap.size) 5 0 0 Q 4 [(0, .ref (ad 0)), (1, .ref (jK k)), (2, .int z2), (3, .int z3)] [] (ww_X5 Y ad σz) := by
    intro nz
    induction nz with
    | zero =>
      intro z2 z3 σz hF
      rw [f_X5_isFormTaken_L4.eq_1] at hF
      exact nomatch hF
    | succ nz ih =>
      intro z2 z3 σz hF
      rw [f_X5_isFormTaken_L4.eq_2] at hF
      refine g_iload_n 5 C dX5_isFormTaken_4 rfl rfl rfl ?_
      refine g_aload_n 6 C dX5_isFormTaken_5 rfl rfl rfl ?_
      obtain ⟨r1, q2, hF⟩ := sg_bndE hF
      refine g_callKi 9 C (w2 := (ww_X5 Y ad σz)) (As := []) (st := [.int z3]) (n0 := 0) (c_J0_length_8abf5 l hZ hJ (hk := Nat.lt_of_lt_of_le hk (by decide)) (ad := ad) (σ := σz) q2) gX5_isFormTaken_J0_length_8abf5 ⟨rfl, by decide +kernel, by decide +kernel, rfl⟩ rfl ⟨Nat.le_of_ble_eq_true rfl, Nat.le_of_ble_eq_true rfl⟩ (fun H locs hS => vk_recv hJJ.2.2.1 (Nat.lt_of_lt_of_le hk (by decide)) hS) sg_cutNone rfl (Nat.le_of_ble_eq_true rfl) ⟨Nat.le_refl _, Nat.le_refl _⟩ dX5_isFormTaken_6 rfl rfl ?_
      refine g_icmp_ge 12 71 C dX5_isFormTaken_9 (by decide) rfl hF (fun hF => ?_) (fun hF => ?_)
      · refine g_iconst 72 C 1 dX5_isFormTaken_71 rfl (by decide) ?_
        obtain ⟨e1, e2⟩ := sg_pairE hF
        exact g_iret C hr rfl hQ hsz dX5_isFormTaken_72 e1.symm (by rw [e2])
      · refine g_aload_n 13 C dX5_isFormTaken_12 rfl rfl rfl ?_
        refine g_iload_n 14 C dX5_isFormTaken_13 rfl rfl rfl ?_
        obtain ⟨r3, q4, hF⟩ := sg_bndE hF
        refine g_callKi 17 C (w2 := (ww_X5 Y ad σz)) (As := [.int z3]) (st := []) (n0 := 1) (c_J0_charAt_5068e l hZ hJ (hk := Nat.lt_of_lt_of_le hk (by decide)) (ad := ad) (σ := σz) q4) gX5_isFormTaken_J0_charAt_5068e ⟨rfl, by decide +kernel, by decide +kernel, rfl⟩ rfl ⟨Nat.le_of_ble_eq_true rfl, Nat.le_of_ble_eq_true rfl⟩ (fun H locs hS => vk_recv hJJ.2.2.1 (Nat.lt_of_lt_of_le hk (by decide)) hS) sg_cutNone rfl (Nat.le_of_ble_eq_true rfl) ⟨Nat.le_refl _, Nat.le_refl _⟩ dX5_isFormTaken_14 rfl rfl ?_
        refine g_istore 19 C [(4, .int r3), (0, .ref (ad 0)), (1, .ref (jK k)), (2, .int z2), (3, .int z3)] dX5_isFormTaken_17 rfl (by decide) rfl ?_
        refine g_iload 21 C dX5_isFormTaken_19 rfl rfl ?_
        refine g_bipush 23 C 49 dX5_isFormTaken_21 rfl (by decide) ?_
        refine g_icmp_eq 26 33 C dX5_isFormTaken_23 (by decide) rfl hF (fun hF => ?_) (fun hF => ?_)
        · refine g_lv (lv2 := [(0, .ref (ad 0)), (1, .ref (jK k)), (2, .int z2), (3, .int z3), (4, .int r3)]) [1, 2, 3, 4, 0] rfl ?_
          exact K33 (fun z2' z3' σz' => f_X5_isFormTaken_L4 k nz z2' z3' σz') ih z2 z3 r3 σz hF
        · refine g_iload 28 C dX5_isFormTaken_26 rfl rfl ?_
          refine g_bipush 30 C 50 dX5_isFormTaken_28 rfl (by decide) ?_
          refine g_icmp_ne 33 54 C dX5_isFormTaken_30 (by decide) rfl hF (fun hF => ?_) (fun hF => ?_)
          · refine g_aload_n 55 C dX5_isFormTaken_54 rfl rfl rfl ?_
            refine g_iload 57 C dX5_isFormTaken_55 rfl rfl ?_
            obtain ⟨r10, τ8, q9, hF⟩ := sg_bnd2E hF
            refine g_callVi 60 C (w2 := (ww_X5 Y ad τ8)) (As := [.int r3]) (st := []) (n0 := 1) (ci := 7) (q0 := 0) [0, 1, 2, 3, 4, 5, 6, 7, 8, 9, 10, 11, 12, 13, 14, 15, 16] [] [0, 1, 2, 3, 4, 5, 6, 7, 8, 9, 10, 11, 12, 13, 14, 15, 16] (c_X5_isSignTaken l hZ hJ (ad := ad) q9) gX5_isFormTaken_X5_isSignTaken ⟨rfl, by decide +kernel, by decide +kernel, rfl⟩ rfl ⟨Nat.le_of_ble_eq_true rfl, Nat.le_of_ble_eq_true rfl⟩ rfl rfl ⟨rfl, rfl, rfl, by decide, rfl, rfl⟩ rfl rfl (Nat.le_of_ble_eq_true rfl) ⟨Nat.le_refl _, Nat.le_refl _⟩ dX5_isFormTaken_57 rfl rfl ?_
            refine g_if_ne 63 65 C dX5_isFormTaken_60 (by decide) rfl hF (fun hF => ?_) (fun hF => ?_)
            · refine g_iinc 68 C 4 (z3 + 1) [(3, .int (z3 + 1)), (4, .int r3), (0, .ref (ad 0)), (1, .ref (jK k)), (2, .int z2)] dX5_isFormTaken_65 rfl rfl rfl (by decide) rfl ?_
              refine g_goto 4 C dX5_isFormTaken_68 (by decide) ?_
              refine g_lv (lv2 := [(0, .ref (ad 0)), (1, .ref (jK k)), (2, .int z2), (3, .int (z3 + 1))]) [2, 3, 4, 0] rfl ?_
              exact ih z2 (z3 + 1) τ8 hF
            · refine g_iconst 64 C 0 dX5_isFormTaken_63 rfl (by decide) ?_
              obtain ⟨e1, e2⟩ := sg_pairE hF
              exact g_iret C hr rfl hQ hsz dX5_isFormTaken_64 e1.symm (by rw [e2])
          · refine g_lv (lv2 := [(0, .ref (ad 0)), (1, .ref (jK k)), (2, .int z2), (3, .int z3), (4, .int r3)]) [1, 2, 3, 4, 0] rfl ?_
            exact K33 (fun z2' z3' σz' => f_X5_isFormTaken_L4 k nz z2' z3' σz') ih z2 z3 r3 σz hF
  rw [f_X5_isFormTaken] at hF
  refine g_iconst 1 C 0 dX5_isFormTaken_0 rfl (by decide) ?_
  refine g_istore_n 2 C [(2, .int 0), (0, .ref (ad 0)), (1, .ref (jK k))] dX5_isFormTaken_1 rfl rfl (by decide) rfl ?_
  refine g_iconst 3 C 0 dX5_isFormTaken_2 rfl (by decide) ?_
  refine g_istore_n 4 C [(3, .int 0), (2, .int 0), (0, .ref (ad 0)), (1, .ref (jK k))] dX5_isFormTaken_3 rfl rfl (by decide) rfl ?_
  refine g_lv (lv2 := [(0, .ref (ad 0)), (1, .ref (jK k)), (2, .int 0), (3, .int 0)]) [2, 3, 1, 0] rfl ?_
  exact K4  1000 0 0 σ hF
theorem kiX5_isCommandTaken_X5 : ∀ w ∈ u_ws RX5 TX5 5, w ∈ wsX5_isCommandTaken := by decide +kernel
theorem kfX5_isCommandTaken_18 : Cond.fieldLink RX5 18 "WeatherMinistry$Text" "at" "I" ∈ wsX5_isCommandTaken := by decide +kernel
theorem kfX5_isCommandTaken_22 : Cond.fieldLink RX5 22 "WeatherMinistry$Text" "count" "I" ∈ wsX5_isCommandTaken := by decide +kernel
theorem kmX5_isCommandTaken_70 : Cond.methodLink RX5 70 Lib.Math.max.name ∈ wsX5_isCommandTaken := by decide +kernel
theorem ksX5_isCommandTaken_mmax : Cond.static Lib.Math.max.name ∈ wsX5_isCommandTaken := by decide +kernel
theorem knX5_isCommandTaken_math : Cond.initialized "java/lang/Math" ∈ wsX5_isCommandTaken := by decide +kernel
theorem kcX5_isCommandTaken_mmax : Cond.code Lib.Math.max.name Lib.Math.max.code 2 (some .int) ∈ wsX5_isCommandTaken := by decide +kernel
theorem kfX5_isCommandTaken_25 : Cond.fieldLink RX5 25 "WeatherMinistry$Text" "kinds" "[I" ∈ wsX5_isCommandTaken := by decide +kernel
def f_X5_isCommandTaken_J65 (κ12 : Int32 → Int32 → Int32 → sg_S → Option (Int32 × sg_S)) (z1 : Int32) (z2 : Int32) (z3 : Int32) (σz : sg_S) : Option (Int32 × sg_S) := sg_let (if z2 < σz 0 1 then σz 0 1 else z2) (fun y5 => κ12 z1 y5 (z3 + 1) σz)
def f_X5_isCommandTaken_L12 : Nat → Int32 → Int32 → Int32 → sg_S → Option (Int32 × sg_S)
  | 0, _, _, _, _ => none
  | nz + 1, z1, z2, z3, σz => (if z3 < 8 then sg_let (sg_up σz 0 1 z1) (fun σ4 => (if σ4 0 2 < 12 then sg_bnd (f_X5_formOf z3) (fun k6 => sg_grd (decide (k6 < 8)) (sg_bnd2 (f_X5_isFormTaken k6 σ4) (fun r11 τ9 => (if r11 = 0 then f_X5_isCommandTaken_J65 (fun z1' z2' z3' σz' => f_X5_isCommandTaken_L12 nz z1' z2' z3' σz') z1 z2 z3 τ9 else sg_grd (sg_in (τ9 0 2) 12) (sg_let (sg_up τ9 3 ((τ9 0 2).toNatClampNeg) z3) (fun σ13 => sg_let (sg_up σ13 0 2 ((σ13 0 2) + 1)) (fun σ14 => some (1, σ14)))))))) else f_X5_isCommandTaken_J65 (fun z1' z2' z3' σz' => f_X5_isCommandTaken_L12 nz z1' z2' z3' σz') z1 z2 z3 σ4)) else sg_let (sg_up σz 0 1 z2) (fun σ3 => some (0, σ3)))
def f_X5_isCommandTaken  (σ : sg_S) : Option (Int32 × sg_S) := sg_let (σ 0 1) (fun y1 => sg_let (σ 0 1) (fun y2 => f_X5_isCommandTaken_L12 1000 y1 y2 0 σ))
set_option maxHeartbeats 4000000 in
set_option maxRecDepth 100000 in
theorem c_X5_isCommandTaken (l : Launch) {D : va_G} {Y : Nat → ClassId} {Z : (Nat → Prop) → State → Heap → Prop} (hZ : sg_Zok Z) {jK jV jT : Nat → Nat} (hJ : sg_ZJ Z jK jV jT) {ad : Nat → Nat} {σ : sg_S} {σ' : sg_S} {r : Int32} (hF : f_X5_isCommandTaken  σ = some (r, σ')) : sg_MI l yX5_isCommandTaken wsX5_isCommandTaken 7 156 D Y Z [.ref (ad 0)] (ww_X5 Y ad σ) r (ww_X5 Y ad σ') := by
  intro sz
  refine sg_enter (own := RX5) (maxL := 4) (ret := (some .boolean)) (cc := cX5_isCommandTaken) (by decide +kernel) rfl rfl (Nat.le_of_ble_eq_true rfl) hZ ?_
  intro p e s m args below meth c C hr Q hQ hsz
  have hJJ := hJ _ _ _ C.2.2.2.2.2.2.2.2.1
  refine g_lv (lv2 := [(0, .ref (ad 0))]) [0] rfl ?_
  have K65 : ∀ (κ12 : Int32 → Int32 → Int32 → sg_S → Option (Int32 × sg_S)), (∀ (z1 : Int32) (z2 : Int32) (z3 : Int32) (σz : sg_S), κ12 z1 z2 z3 σz = some (r, σ') → sg_G p l e ({ frames := 7, cells := 0, slots := 0, locals := 156 } : Room) s m args below meth c D (va_A (ww_X5 Y ad σ) s.heap.size) 4 0 0 Q 12 [(0, .ref (ad 0)), (1, .int z1), (2, .int z2), (3, .int z3)] [] (ww_X5 Y ad σz)) → ∀ (z1 : Int32) (z2 : Int32) (z3 : Int32) (σz : sg_S), f_X5_isCommandTaken_J65 κ12 z1 z2 z3 σz = some (r, σ') → sg_G p l e ({ frames := 7, cells := 0, slots := 0, locals := 156 } : Room) s m args below meth c D (va_A (ww_X5 Y ad σ) s.heap.size) 4 0 0 Q 65 [(0, .ref (ad 0)), (1, .int z1), (2, .int z2), (3, .int z3)] [] (ww_X5 Y ad σz) := by
    intro κ12 hκ12 z1 z2 z3 σz hF
    rw [f_X5_isCommandTaken_J65] at hF
    refine g_iload_n 66 C dX5_isCommandTaken_65 rfl rfl rfl ?_
    refine g_aload_n 67 C dX5_isCommandTaken_66 rfl rfl rfl ?_
    refine g_get 70 C (own := RX5) (C1 := RX5) (T := TX5) 0 1 (.int (σz 0 1)) kiX5_isCommandTaken_X5 kfX5_isCommandTaken_18 rfl dX5_isCommandTaken_67 rfl rfl rfl (by decide) rfl ?_
    refine g_mmax 73 C kmX5_isCommandTaken_70 ksX5_isCommandTaken_mmax knX5_isCommandTaken_math kcX5_isCommandTaken_mmax (Nat.le_of_ble_eq_true rfl) (Nat.le_of_ble_eq_true rfl) (Nat.le_refl _) (Nat.le_refl _) dX5_isCommandTaken_70 rfl ?_
    obtain ⟨y5, ey5, hF⟩ := sg_letE hF
    refine g_top ey5 ?_
    refine g_istore_n 74 C [(2, .int y5), (0, .ref (ad 0)), (1, .int z1), (3, .int z3)] dX5_isCommandTaken_73 rfl rfl (by decide) rfl ?_
    refine g_iinc 77 C 3 (z3 + 1) [(3, .int (z3 + 1)), (2, .int y5), (0, .ref (ad 0)), (1, .int z1)] dX5_isCommandTaken_74 rfl rfl rfl (by decide) rfl ?_
    refine g_goto 12 C dX5_isCommandTaken_77 (by decide) ?_
    refine g_lv (lv2 := [(0, .ref (ad 0)), (1, .int z1), (2, .int y5), (3, .int (z3 + 1))]) [2, 3, 1, 0] rfl ?_
    exact hκ12 z1 y5 (z3 + 1) σz hF
  have K12 : ∀ (nz : Nat), ∀ (z1 : Int32) (z2 : Int32) (z3 : Int32) (σz : sg_S), f_X5_isCommandTaken_L12 nz z1 z2 z3 σz = some (r, σ') → sg_G p l e ({ frames := 7, cells := 0, slots := 0, locals := 156 } : Room) s m args below meth c D (va_A (ww_X5 Y ad σ) s.heap.size) 4 0 0 Q 12 [(0, .ref (ad 0)), (1, .int z1), (2, .int z2), (3, .int z3)] [] (ww_X5 Y ad σz) := by
    intro nz
    induction nz with
    | zero =>
      intro z1 z2 z3 σz hF
      rw [f_X5_isCommandTaken_L12.eq_1] at hF
      exact nomatch hF
    | succ nz ih =>
      intro z1 z2 z3 σz hF
      rw [f_X5_isCommandTaken_L12.eq_2] at hF
      refine g_iload_n 13 C dX5_isCommandTaken_12 rfl rfl rfl ?_
      refine g_bipush 15 C 8 dX5_isCommandTaken_13 rfl (by decide) ?_
      refine g_icmp_ge 18 80 C dX5_isCommandTaken_15 (by decide) rfl hF (fun hF => ?_) (fun hF => ?_)
      · refine g_aload_n 81 C dX5_isCommandTaken_80 rfl rfl rfl ?_
        refine g_iload_n 82 C dX5_isCommandTaken_81 rfl rfl rfl ?_
        obtain ⟨σ3, eσ3, hF⟩ := sg_letE hF
        refine g_put 85 C (own := RX5) (C1 := RX5) (T := TX5) (w2 := (ww_X5 Y ad σ3)) 0 1 tyX5 tyX5_ok nmX5 kiX5_isCommandTaken_X5 kfX5_isCommandTaken_18 rfl rfl (ty := .int) (by decide) rfl rfl (sg_blt rfl) dX5_isCommandTaken_82 rfl rfl rfl (by decide) (by rw [eσ3]; rfl) ?_
        refine g_iconst 86 C 0 dX5_isCommandTaken_85 rfl (by decide) ?_
        obtain ⟨e1, e2⟩ := sg_pairE hF
        exact g_iret C hr rfl hQ hsz dX5_isCommandTaken_86 e1.symm (by rw [e2])
      · refine g_aload_n 19 C dX5_isCommandTaken_18 rfl rfl rfl ?_
        refine g_iload_n 20 C dX5_isCommandTaken_19 rfl rfl rfl ?_
        obtain ⟨σ4, eσ4, hF⟩ := sg_letE hF
        refine g_put 23 C (own := RX5) (C1 := RX5) (T := TX5) (w2 := (ww_X5 Y ad σ4)) 0 1 tyX5 tyX5_ok nmX5 kiX5_isCommandTaken_X5 kfX5_isCommandTaken_18 rfl rfl (ty := .int) (by decide) rfl rfl (sg_blt rfl) dX5_isCommandTaken_20 rfl rfl rfl (by decide) (by rw [eσ4]; rfl) ?_
        refine g_aload_n 24 C dX5_isCommandTaken_23 rfl rfl rfl ?_
        refine g_get 27 C (own := RX5) (C1 := RX5) (T := TX5) 0 2 (.int (σ4 0 2)) kiX5_isCommandTaken_X5 kfX5_isCommandTaken_22 rfl dX5_isCommandTaken_24 rfl rfl rfl (by decide) rfl ?_
        refine g_bipush 29 C 12 dX5_isCommandTaken_27 rfl (by decide) ?_
        refine g_icmp_ge 32 65 C dX5_isCommandTaken_29 (by decide) rfl hF (fun hF => ?_) (fun hF => ?_)
        · refine g_lv (lv2 := [(0, .ref (ad 0)), (1, .int z1), (2, .int z2), (3, .int z3)]) [0, 1, 2, 3] rfl ?_
          exact K65 (fun z1' z2' z3' σz' => f_X5_isCommandTaken_L12 nz z1' z2' z3' σz') ih z1 z2 z3 σ4 hF
        · refine g_aload_n 33 C dX5_isCommandTaken_32 rfl rfl rfl ?_
          refine g_iload_n 34 C dX5_isCommandTaken_33 rfl rfl rfl ?_
          obtain ⟨k6, q7, hF⟩ := sg_bndE hF
          obtain ⟨h8, hF⟩ := sg_grdE hF
          have hkk6 : k6 < 8 := of_decide_eq_true h8
          refine g_XSr 37 C (w2 := fun _ => (ww_X5 Y ad σ4)) (As := [.int z3]) (st := [.ref (ad 0)]) (n0 := 1) (c_X5_formOf l hZ hJ (ad := ad) (σ := σ4) q7) gX5_isCommandTaken_X5_formOf ⟨by decide +kernel, by decide +kernel, rfl⟩ rfl ⟨Nat.le_of_ble_eq_true rfl, Nat.le_of_ble_eq_true rfl⟩ ⟨(ww_X5 Y ad σ4), by show List.Perm _ ([] ++ _); rw [List.nil_append], fun _ => by show List.Perm (_ ++ []) _; rw [List.append_nil]⟩ rfl (Nat.le_of_ble_eq_true rfl) ⟨Nat.le_refl _, Nat.le_refl _⟩ dX5_isCommandTaken_34 rfl rfl (fun _ _ => ?_)
          obtain ⟨r11, τ9, q10, hF⟩ := sg_bnd2E hF
          refine g_callVi 40 C (w2 := (ww_X5 Y ad τ9)) (As := [.ref (jK k6)]) (st := []) (n0 := 1) (ci := 7) (q0 := 0) [0, 1, 2, 3, 4, 5, 6, 7, 8, 9, 10, 11, 12, 13, 14, 15, 16] [] [0, 1, 2, 3, 4, 5, 6, 7, 8, 9, 10, 11, 12, 13, 14, 15, 16] (c_X5_isFormTaken l hZ hJ (hk := hkk6) (ad := ad) q10) gX5_isCommandTaken_X5_isFormTaken ⟨rfl, by decide +kernel, by decide +kernel, rfl⟩ rfl ⟨Nat.le_of_ble_eq_true rfl, Nat.le_of_ble_eq_true rfl⟩ rfl rfl ⟨rfl, rfl, rfl, by decide, rfl, rfl⟩ rfl rfl (Nat.le_of_ble_eq_true rfl) ⟨Nat.le_refl _, Nat.le_refl _⟩ dX5_isCommandTaken_37 rfl rfl ?_
          refine g_if_eq 43 65 C dX5_isCommandTaken_40 (by decide) rfl hF (fun hF => ?_) (fun hF => ?_)
          · refine g_lv (lv2 := [(0, .ref (ad 0)), (1, .int z1), (2, .int z2), (3, .int z3)]) [0, 1, 2, 3] rfl ?_
            exact K65 (fun z1' z2' z3' σz' => f_X5_isCommandTaken_L12 nz z1' z2' z3' σz') ih z1 z2 z3 τ9 hF
          · refine g_aload_n 44 C dX5_isCommandTaken_43 rfl rfl rfl ?_
            refine g_get 47 C (own := RX5) (C1 := RX5) (T := TX5) 0 3 (.ref (ad 3)) kiX5_isCommandTaken_X5 kfX5_isCommandTaken_25 rfl dX5_isCommandTaken_44 rfl rfl rfl (by decide) rfl ?_
            refine g_aload_n 48 C dX5_isCommandTaken_47 rfl rfl rfl ?_
            refine g_get 51 C (own := RX5) (C1 := RX5) (T := TX5) 0 2 (.int (τ9 0 2)) kiX5_isCommandTaken_X5 kfX5_isCommandTaken_22 rfl dX5_isCommandTaken_48 rfl rfl rfl (by decide) rfl ?_
            refine g_iload_n 52 C dX5_isCommandTaken_51 rfl rfl rfl ?_
            obtain ⟨h12, hF⟩ := sg_grdE hF
            obtain ⟨σ13, eσ13, hF⟩ := sg_letE hF
            refine g_iast 53 C (w2 := (ww_X5 Y ad σ13)) 3 dX5_isCommandTaken_52 rfl rfl h12 (by rw [eσ13]; rfl) ?_
            refine g_aload_n 54 C dX5_isCommandTaken_53 rfl rfl rfl ?_
            refine g_dup 55 C dX5_isCommandTaken_54 rfl rfl ?_
            refine g_get 58 C (own := RX5) (C1 := RX5) (T := TX5) 0 2 (.int (σ13 0 2)) kiX5_isCommandTaken_X5 kfX5_isCommandTaken_22 rfl dX5_isCommandTaken_55 rfl rfl rfl (by decide) rfl ?_
            refine g_iconst 59 C 1 dX5_isCommandTaken_58 rfl (by decide) ?_
            refine g_iadd 60 C dX5_isCommandTaken_59 rfl ?_
            obtain ⟨σ14, eσ14, hF⟩ := sg_letE hF
            refine g_put 63 C (own := RX5) (C1 := RX5) (T := TX5) (w2 := (ww_X5 Y ad σ14)) 0 2 tyX5 tyX5_ok nmX5 kiX5_isCommandTaken_X5 kfX5_isCommandTaken_22 rfl rfl (ty := .int) (by decide) rfl rfl (sg_blt rfl) dX5_isCommandTaken_60 rfl rfl rfl (by decide) (by rw [eσ14]; rfl) ?_
            refine g_iconst 64 C 1 dX5_isCommandTaken_63 rfl (by decide) ?_
            obtain ⟨e1, e2⟩ := sg_pairE hF
            exact g_iret C hr rfl hQ hsz dX5_isCommandTaken_64 e1.symm (by rw [e2])
  rw [f_X5_isCommandTaken] at hF
  refine g_aload_n 1 C dX5_isCommandTaken_0 rfl rfl rfl ?_
  refine g_get 4 C (own := RX5) (C1 := RX5) (T := TX5) 0 1 (.int (σ 0 1)) kiX5_isCommandTaken_X5 kfX5_isCommandTaken_18 rfl dX5_isCommandTaken_1 rfl rfl rfl (by decide) rfl ?_
  obtain ⟨y1, ey1, hF⟩ := sg_letE hF
  refine g_top ey1 ?_
  refine g_istore_n 5 C [(1, .int y1), (0, .ref (ad 0))] dX5_isCommandTaken_4 rfl rfl (by decide) rfl ?_
  refine g_aload_n 6 C dX5_isCommandTaken_5 rfl rfl rfl ?_
  refine g_get 9 C (own := RX5) (C1 := RX5) (T := TX5) 0 1 (.int (σ 0 1)) kiX5_isCommandTaken_X5 kfX5_isCommandTaken_18 rfl dX5_isCommandTaken_6 rfl rfl rfl (by decide) rfl ?_
  obtain ⟨y2, ey2, hF⟩ := sg_letE hF
  refine g_top ey2 ?_
  refine g_istore_n 10 C [(2, .int y2), (1, .int y1), (0, .ref (ad 0))] dX5_isCommandTaken_9 rfl rfl (by decide) rfl ?_
  refine g_iconst 11 C 0 dX5_isCommandTaken_10 rfl (by decide) ?_
  refine g_istore_n 12 C [(3, .int 0), (2, .int y2), (1, .int y1), (0, .ref (ad 0))] dX5_isCommandTaken_11 rfl rfl (by decide) rfl ?_
  refine g_lv (lv2 := [(0, .ref (ad 0)), (1, .int y1), (2, .int y2), (3, .int 0)]) [3, 2, 1, 0] rfl ?_
  exact K12  1000 y1 y2 0 σ hF
theorem kiX5_isWellFormed_X5 : ∀ w ∈ u_ws RX5 TX5 5, w ∈ wsX5_isWellFormed := by decide +kernel
theorem kfX5_isWellFormed_18 : Cond.fieldLink RX5 18 "WeatherMinistry$Text" "at" "I" ∈ wsX5_isWellFormed := by decide +kernel
theorem kfX5_isWellFormed_22 : Cond.fieldLink RX5 22 "WeatherMinistry$Text" "count" "I" ∈ wsX5_isWellFormed := by decide +kernel
theorem kfX5_isWellFormed_12 : Cond.fieldLink RX5 12 "WeatherMinistry$Text" "signs" "Ljava/lang/StringBuilder;" ∈ wsX5_isWellFormed := by decide +kernel
def f_X5_isWellFormed_J33 (κ12 : Int32 → sg_S → Option (Int32 × sg_S)) (z1 : Int32) (σz : sg_S) : Option (Int32 × sg_S) := sg_bnd2 (f_X5_isCommandTaken  σz) (fun r5 τ3 => (if r5 = 0 then some (0, τ3) else sg_bnd (f_J4_length_8abf5  (sg_e1 1 τ3)) (fun r6 => (if τ3 0 1 = r6 then some (1, τ3) else κ12 (z1 + 1) τ3))))
def f_X5_isWellFormed_L12 : Nat → Int32 → sg_S → Option (Int32 × sg_S)
  | 0, _, _ => none
  | nz + 1, z1, σz => (if z1 < 12 then (if 0 < z1 then sg_bnd2 (f_X5_isSignTaken 59 σz) (fun r10 τ8 => (if r10 = 0 then some (0, τ8) else f_X5_isWellFormed_J33 (fun z1' σz' => f_X5_isWellFormed_L12 nz z1' σz') z1 τ8)) else f_X5_isWellFormed_J33 (fun z1' σz' => f_X5_isWellFormed_L12 nz z1' σz') z1 σz) else some (0, σz))
def f_X5_isWellFormed  (σ : sg_S) : Option (Int32 × sg_S) := sg_let (sg_up σ 0 1 0) (fun σ1 => sg_let (sg_up σ1 0 2 0) (fun σ2 => f_X5_isWellFormed_L12 1000 0 σ2))
set_option maxHeartbeats 4000000 in
set_option maxRecDepth 100000 in
theorem c_X5_isWellFormed (l : Launch) {D : va_G} {Y : Nat → ClassId} {Z : (Nat → Prop) → State → Heap → Prop} (hZ : sg_Zok Z) {jK jV jT : Nat → Nat} (hJ : sg_ZJ Z jK jV jT) {ad : Nat → Nat} {σ : sg_S} {σ' : sg_S} {r : Int32} (hF : f_X5_isWellFormed  σ = some (r, σ')) : sg_MI l yX5_isWellFormed wsX5_isWellFormed 8 179 D Y Z [.ref (ad 0)] (ww_X5 Y ad σ) r (ww_X5 Y ad σ') := by
  intro sz
  refine sg_enter (own := RX5) (maxL := 2) (ret := (some .boolean)) (cc := cX5_isWellFormed) (by decide +kernel) rfl rfl (Nat.le_of_ble_eq_true rfl) hZ ?_
  intro p e s m args below meth c C hr Q hQ hsz
  have hJJ := hJ _ _ _ C.2.2.2.2.2.2.2.2.1
  refine g_lv (lv2 := [(0, .ref (ad 0))]) [0] rfl ?_
  have K33 : ∀ (κ12 : Int32 → sg_S → Option (Int32 × sg_S)), (∀ (z1 : Int32) (σz : sg_S), κ12 z1 σz = some (r, σ') → sg_G p l e ({ frames := 8, cells := 0, slots := 0, locals := 179 } : Room) s m args below meth c D (va_A (ww_X5 Y ad σ) s.heap.size) 2 0 0 Q 12 [(0, .ref (ad 0)), (1, .int z1)] [] (ww_X5 Y ad σz)) → ∀ (z1 : Int32) (σz : sg_S), f_X5_isWellFormed_J33 κ12 z1 σz = some (r, σ') → sg_G p l e ({ frames := 8, cells := 0, slots := 0, locals := 179 } : Room) s m args below meth c D (va_A (ww_X5 Y ad σ) s.heap.size) 2 0 0 Q 33 [(0, .ref (ad 0)), (1, .int z1)] [] (ww_X5 Y ad σz) := by
    intro κ12 hκ12 z1 σz hF
    rw [f_X5_isWellFormed_J33] at hF
    refine g_aload_n 34 C dX5_isWellFormed_33 rfl rfl rfl ?_
    obtain ⟨r5, τ3, q4, hF⟩ := sg_bnd2E hF
    refine g_callVi 37 C (w2 := (ww_X5 Y ad τ3)) (As := []) (st := []) (n0 := 0) (ci := 7) (q0 := 0) [0, 1, 2, 3, 4, 5, 6, 7, 8, 9, 10, 11, 12, 13, 14, 15, 16] [] [0, 1, 2, 3, 4, 5, 6, 7, 8, 9, 10, 11, 12, 13, 14, 15, 16] (c_X5_isCommandTaken l hZ hJ (ad := ad) q4) gX5_isWellFormed_X5_isCommandTaken ⟨rfl, by decide +kernel, by decide +kernel, rfl⟩ rfl ⟨Nat.le_of_ble_eq_true rfl, Nat.le_of_ble_eq_true rfl⟩ rfl rfl ⟨rfl, rfl, rfl, by decide, rfl, rfl⟩ rfl rfl (Nat.le_of_ble_eq_true rfl) ⟨Nat.le_refl _, Nat.le_refl _⟩ dX5_isWellFormed_34 rfl rfl ?_
    refine g_if_ne 40 42 C dX5_isWellFormed_37 (by decide) rfl hF (fun hF => ?_) (fun hF => ?_)
    · refine g_aload_n 43 C dX5_isWellFormed_42 rfl rfl rfl ?_
      refine g_get 46 C (own := RX5) (C1 := RX5) (T := TX5) 0 1 (.int (τ3 0 1)) kiX5_isWellFormed_X5 kfX5_isWellFormed_18 rfl dX5_isWellFormed_43 rfl rfl rfl (by decide) rfl ?_
      refine g_aload_n 47 C dX5_isWellFormed_46 rfl rfl rfl ?_
      refine g_get 50 C (own := RX5) (C1 := RX5) (T := TX5) 0 0 (.ref (ad 1)) kiX5_isWellFormed_X5 kfX5_isWellFormed_12 rfl dX5_isWellFormed_47 rfl rfl rfl (by decide) rfl ?_
      obtain ⟨r6, q7, hF⟩ := sg_bndE hF
      refine g_callVi 53 C (w2 := (ww_X5 Y ad τ3)) (As := []) (st := [.int (τ3 0 1)]) (n0 := 0) (ci := 1) (q0 := 1) [1, 2] [0, 3, 4, 5, 6, 7, 8, 9, 10, 11, 12, 13, 14, 15, 16] [0, 15, 16, 1, 2, 3, 4, 5, 6, 7, 8, 9, 10, 11, 12, 13, 14] (c_J4_length_8abf5 l hZ (ad := (sg_e1 1 ad)) q7) gX5_isWellFormed_J4_length_8abf5 ⟨rfl, by decide +kernel, by decide +kernel, rfl⟩ rfl ⟨Nat.le_of_ble_eq_true rfl, Nat.le_of_ble_eq_true rfl⟩ rfl rfl ⟨rfl, rfl, rfl, by decide, rfl, rfl⟩ rfl rfl (Nat.le_of_ble_eq_true rfl) ⟨Nat.le_refl _, Nat.le_refl _⟩ dX5_isWellFormed_50 rfl rfl ?_
      refine g_icmp_ne 56 58 C dX5_isWellFormed_53 (by decide) rfl hF (fun hF => ?_) (fun hF => ?_)
      · refine g_iinc 61 C 1 (z1 + 1) [(1, .int (z1 + 1)), (0, .ref (ad 0))] dX5_isWellFormed_58 rfl rfl rfl (by decide) rfl ?_
        refine g_goto 12 C dX5_isWellFormed_61 (by decide) ?_
        refine g_lv (lv2 := [(0, .ref (ad 0)), (1, .int (z1 + 1))]) [1, 0] rfl ?_
        exact hκ12 (z1 + 1) τ3 hF
      · refine g_iconst 57 C 1 dX5_isWellFormed_56 rfl (by decide) ?_
        obtain ⟨e1, e2⟩ := sg_pairE hF
        exact g_iret C hr rfl hQ hsz dX5_isWellFormed_57 e1.symm (by rw [e2])
    · refine g_iconst 41 C 0 dX5_isWellFormed_40 rfl (by decide) ?_
      obtain ⟨e1, e2⟩ := sg_pairE hF
      exact g_iret C hr rfl hQ hsz dX5_isWellFormed_41 e1.symm (by rw [e2])
  have K12 : ∀ (nz : Nat), ∀ (z1 : Int32) (σz : sg_S), f_X5_isWellFormed_L12 nz z1 σz = some (r, σ') → sg_G p l e ({ frames := 8, cells := 0, slots := 0, locals := 179 } : Room) s m args below meth c D (va_A (ww_X5 Y ad σ) s.heap.size) 2 0 0 Q 12 [(0, .ref (ad 0)), (1, .int z1)] [] (ww_X5 Y ad σz) := by
    intro nz
    induction nz with
    | zero =>
      intro z1 σz hF
      rw [f_X5_isWellFormed_L12.eq_1] at hF
      exact nomatch hF
    | succ nz ih =>
      intro z1 σz hF
      rw [f_X5_isWellFormed_L12.eq_2] at hF
      refine g_iload_n 13 C dX5_isWellFormed_12 rfl rfl rfl ?_
      refine g_bipush 15 C 12 dX5_isWellFormed_13 rfl (by decide) ?_
      refine g_icmp_ge 18 64 C dX5_isWellFormed_15 (by decide) rfl hF (fun hF => ?_) (fun hF => ?_)
      · refine g_iconst 65 C 0 dX5_isWellFormed_64 rfl (by decide) ?_
        obtain ⟨e1, e2⟩ := sg_pairE hF
        exact g_iret C hr rfl hQ hsz dX5_isWellFormed_65 e1.symm (by rw [e2])
      · refine g_iload_n 19 C dX5_isWellFormed_18 rfl rfl rfl ?_
        refine g_if_le 22 33 C dX5_isWellFormed_19 (by decide) rfl hF (fun hF => ?_) (fun hF => ?_)
        · refine g_lv (lv2 := [(0, .ref (ad 0)), (1, .int z1)]) [0, 1] rfl ?_
          exact K33 (fun z1' σz' => f_X5_isWellFormed_L12 nz z1' σz') ih z1 σz hF
        · refine g_aload_n 23 C dX5_isWellFormed_22 rfl rfl rfl ?_
          refine g_bipush 25 C 59 dX5_isWellFormed_23 rfl (by decide) ?_
          obtain ⟨r10, τ8, q9, hF⟩ := sg_bnd2E hF
          refine g_callVi 28 C (w2 := (ww_X5 Y ad τ8)) (As := [.int 59]) (st := []) (n0 := 1) (ci := 7) (q0 := 0) [0, 1, 2, 3, 4, 5, 6, 7, 8, 9, 10, 11, 12, 13, 14, 15, 16] [] [0, 1, 2, 3, 4, 5, 6, 7, 8, 9, 10, 11, 12, 13, 14, 15, 16] (c_X5_isSignTaken l hZ hJ (ad := ad) q9) gX5_isWellFormed_X5_isSignTaken ⟨rfl, by decide +kernel, by decide +kernel, rfl⟩ rfl ⟨Nat.le_of_ble_eq_true rfl, Nat.le_of_ble_eq_true rfl⟩ rfl rfl ⟨rfl, rfl, rfl, by decide, rfl, rfl⟩ rfl rfl (Nat.le_of_ble_eq_true rfl) ⟨Nat.le_refl _, Nat.le_refl _⟩ dX5_isWellFormed_25 rfl rfl ?_
          refine g_if_ne 31 33 C dX5_isWellFormed_28 (by decide) rfl hF (fun hF => ?_) (fun hF => ?_)
          · refine g_lv (lv2 := [(0, .ref (ad 0)), (1, .int z1)]) [0, 1] rfl ?_
            exact K33 (fun z1' σz' => f_X5_isWellFormed_L12 nz z1' σz') ih z1 τ8 hF
          · refine g_iconst 32 C 0 dX5_isWellFormed_31 rfl (by decide) ?_
            obtain ⟨e1, e2⟩ := sg_pairE hF
            exact g_iret C hr rfl hQ hsz dX5_isWellFormed_32 e1.symm (by rw [e2])
  rw [f_X5_isWellFormed] at hF
  refine g_aload_n 1 C dX5_isWellFormed_0 rfl rfl rfl ?_
  refine g_iconst 2 C 0 dX5_isWellFormed_1 rfl (by decide) ?_
  obtain ⟨σ1, eσ1, hF⟩ := sg_letE hF
  refine g_put 5 C (own := RX5) (C1 := RX5) (T := TX5) (w2 := (ww_X5 Y ad σ1)) 0 1 tyX5 tyX5_ok nmX5 kiX5_isWellFormed_X5 kfX5_isWellFormed_18 rfl rfl (ty := .int) (by decide) rfl rfl (sg_blt rfl) dX5_isWellFormed_2 rfl rfl rfl (by decide) (by rw [eσ1]; rfl) ?_
  refine g_aload_n 6 C dX5_isWellFormed_5 rfl rfl rfl ?_
  refine g_iconst 7 C 0 dX5_isWellFormed_6 rfl (by decide) ?_
  obtain ⟨σ2, eσ2, hF⟩ := sg_letE hF
  refine g_put 10 C (own := RX5) (C1 := RX5) (T := TX5) (w2 := (ww_X5 Y ad σ2)) 0 2 tyX5 tyX5_ok nmX5 kiX5_isWellFormed_X5 kfX5_isWellFormed_22 rfl rfl (ty := .int) (by decide) rfl rfl (sg_blt rfl) dX5_isWellFormed_7 rfl rfl rfl (by decide) (by rw [eσ2]; rfl) ?_
  refine g_iconst 11 C 0 dX5_isWellFormed_10 rfl (by decide) ?_
  refine g_istore_n 12 C [(1, .int 0), (0, .ref (ad 0))] dX5_isWellFormed_11 rfl rfl (by decide) rfl ?_
  refine g_lv (lv2 := [(0, .ref (ad 0)), (1, .int 0)]) [1, 0] rfl ?_
  exact K12  1000 0 σ2 hF
theorem kiX7_account_X7 : ∀ w ∈ u_ws RX7 TX7 10, w ∈ wsX7_account := by decide +kernel
theorem kfX7_account_10 : Cond.fieldLink RX7 10 "WeatherMinistry" "now" "LWeatherMinistry$Realm;" ∈ wsX7_account := by decide +kernel
theorem kiX7_account_X3 : ∀ w ∈ u_ws RX3 TX3 8, w ∈ wsX7_account := by decide +kernel
theorem kfX7_account_108 : Cond.fieldLink RX7 108 "WeatherMinistry$Realm" "month" "I" ∈ wsX7_account := by decide +kernel
theorem kfX7_account_69 : Cond.fieldLink RX7 69 "WeatherMinistry$Realm" "credits" "LWeatherMinistry$Credits;" ∈ wsX7_account := by decide +kernel
theorem kiX7_account_X1 : ∀ w ∈ u_ws RX1 TX1 4, w ∈ wsX7_account := by decide +kernel
theorem kfX7_account_151 : Cond.fieldLink RX7 151 "WeatherMinistry$Credits" "count" "I" ∈ wsX7_account := by decide +kernel
theorem kfX7_account_79 : Cond.fieldLink RX7 79 "WeatherMinistry$Realm" "treaties" "LWeatherMinistry$Treaties;" ∈ wsX7_account := by decide +kernel
theorem kfX7_account_154 : Cond.fieldLink RX7 154 "WeatherMinistry$Realm" "sun" "[I" ∈ wsX7_account := by decide +kernel
theorem kfX7_account_203 : Cond.fieldLink RX7 203 "WeatherMinistry$Realm" "rain" "[I" ∈ wsX7_account := by decide +kernel
theorem kfX7_account_148 : Cond.fieldLink RX7 148 "WeatherMinistry$Realm" "arrears" "[I" ∈ wsX7_account := by decide +kernel
theorem kfX7_account_206 : Cond.fieldLink RX7 206 "WeatherMinistry$Realm" "umbrellas" "[I" ∈ wsX7_account := by decide +kernel
theorem kfX7_account_188 : Cond.fieldLink RX7 188 "WeatherMinistry$Realm" "books" "LWeatherMinistry$Books;" ∈ wsX7_account := by decide +kernel
theorem kfX7_account_39 : Cond.fieldLink RX7 39 "WeatherMinistry" "text" "LWeatherMinistry$Text;" ∈ wsX7_account := by decide +kernel
theorem kiX7_account_X5 : ∀ w ∈ u_ws RX5 TX5 5, w ∈ wsX7_account := by decide +kernel
theorem kfX7_account_209 : Cond.fieldLink RX7 209 "WeatherMinistry$Text" "signs" "Ljava/lang/StringBuilder;" ∈ wsX7_account := by decide +kernel
theorem kfX7_account_32 : Cond.fieldLink RX7 32 "WeatherMinistry" "history" "LWeatherMinistry$History;" ∈ wsX7_account := by decide +kernel
theorem kiX7_account_X2 : ∀ w ∈ u_ws RX2 TX2 3, w ∈ wsX7_account := by decide +kernel
theorem kfX7_account_215 : Cond.fieldLink RX7 215 "WeatherMinistry$History" "count" "I" ∈ wsX7_account := by decide +kernel
def f_X7_account (x1 : Int32) (σ : sg_S) : Option Int32 := (if x1 = 0 then some (σ 1 0) else (if x1 = 1 then some (σ 9 0) else (if x1 = 2 then sg_bnd (f_X6_countAll  (sg_e1 6 σ)) (fun r3 => some r3) else (if x1 = 3 then sg_bnd (f_X7_sumOf  (sg_e1 2 σ)) (fun r6 => some r6) else (if x1 = 4 then sg_bnd (f_X7_sumOf  (sg_e1 3 σ)) (fun r9 => some r9) else (if x1 = 5 then sg_bnd (f_X7_sumOf  (sg_e1 5 σ)) (fun r12 => some r12) else (if x1 = 6 then sg_bnd (f_X7_sumOf  (sg_e1 4 σ)) (fun r15 => some r15) else (if x1 = 7 then sg_bnd (f_X0_entryOf x1 (sg_e1 13 σ)) (fun r18 => some r18) else (if x1 = 8 then sg_bnd (f_X0_entryOf x1 (sg_e1 13 σ)) (fun r21 => some r21) else (if x1 = 9 then sg_bnd (f_X0_entryOf x1 (sg_e1 13 σ)) (fun r24 => some r24) else (if x1 = 10 then sg_bnd (f_X0_entryOf x1 (sg_e1 13 σ)) (fun r27 => some r27) else (if x1 = 11 then sg_bnd (f_X0_entryOf x1 (sg_e1 13 σ)) (fun r30 => some r30) else (if x1 = 12 then sg_bnd (f_X0_entryOf x1 (sg_e1 13 σ)) (fun r33 => some r33) else (if x1 = 13 then sg_bnd (f_X0_entryOf x1 (sg_e1 13 σ)) (fun r36 => some r36) else (if x1 = 14 then sg_bnd (f_J4_length_8abf5  (sg_e1 161 σ)) (fun r39 => some r39) else (if x1 = 15 then some (σ 54 0) else sg_bnd (f_X0_entryOf x1 (sg_e1 13 σ)) (fun r43 => some r43)))))))))))))))))
set_option maxHeartbeats 4000000 in
set_option maxRecDepth 100000 in
theorem c_X7_account (l : Launch) {D : va_G} {Y : Nat → ClassId} {Z : (Nat → Prop) → State → Heap → Prop} (hZ : sg_Zok Z) {ad : Nat → Nat} {σ : sg_S} {x1 : Int32} {r : Int32} (hF : f_X7_account x1 σ = some r) : sg_MI l yX7_account wsX7_account 3 63 D Y Z [.ref (ad 0), .int x1] (ww_X7TNhx Y ad σ) r (ww_X7TNhx Y ad σ) := by
  intro sz
  refine sg_enter (own := RX7) (maxL := 2) (ret := (some .int)) (cc := cX7_account) (by decide +kernel) rfl rfl (Nat.le_of_ble_eq_true rfl) hZ ?_
  intro p e s m args below meth c C hr Q hQ hsz
  refine g_lv (lv2 := [(0, .ref (ad 0)), (1, .int x1)]) [0, 1] rfl ?_
  rw [f_X7_account] at hF
  refine g_iload_n 1 C dX7_account_0 rfl rfl rfl ?_
  rcases sg_iteE hF with ⟨c1, hF⟩ | ⟨c1, hF⟩
  · refine g_tsin (off := 79) C 80 0 dX7_account_1 c1 (by decide) (by decide) (by decide) (by decide) ?_
    refine g_aload_n 81 C dX7_account_80 rfl rfl rfl ?_
    refine g_get 84 C (own := RX7) (C1 := RX7) (T := TX7) 0 0 (.ref (ad 1)) kiX7_account_X7 kfX7_account_10 rfl dX7_account_81 rfl rfl rfl (by decide) rfl ?_
    refine g_get 87 C (own := RX7) (C1 := RX3) (T := TX3) 1 0 (.int (σ 1 0)) kiX7_account_X3 kfX7_account_108 rfl dX7_account_84 rfl rfl rfl (by decide) rfl ?_
    have e1 := sg_someE hF
    exact g_iret C hr rfl hQ hsz dX7_account_87 e1.symm rfl
  rcases sg_iteE hF with ⟨c2, hF⟩ | ⟨c2, hF⟩
  · refine g_tsin (off := 87) C 88 1 dX7_account_1 c2 (by decide) (by decide) (by decide) (by decide) ?_
    refine g_aload_n 89 C dX7_account_88 rfl rfl rfl ?_
    refine g_get 92 C (own := RX7) (C1 := RX7) (T := TX7) 0 0 (.ref (ad 1)) kiX7_account_X7 kfX7_account_10 rfl dX7_account_89 rfl rfl rfl (by decide) rfl ?_
    refine g_get 95 C (own := RX7) (C1 := RX3) (T := TX3) 1 6 (.ref (ad 9)) kiX7_account_X3 kfX7_account_69 rfl dX7_account_92 rfl rfl rfl (by decide) rfl ?_
    refine g_get 98 C (own := RX7) (C1 := RX1) (T := TX1) 9 0 (.int (σ 9 0)) kiX7_account_X1 kfX7_account_151 rfl dX7_account_95 rfl rfl rfl (by decide) rfl ?_
    have e1 := sg_someE hF
    exact g_iret C hr rfl hQ hsz dX7_account_98 e1.symm rfl
  rcases sg_iteE hF with ⟨c5, hF⟩ | ⟨c5, hF⟩
  · refine g_tsin (off := 98) C 99 2 dX7_account_1 c5 (by decide) (by decide) (by decide) (by decide) ?_
    refine g_aload_n 100 C dX7_account_99 rfl rfl rfl ?_
    refine g_get 103 C (own := RX7) (C1 := RX7) (T := TX7) 0 0 (.ref (ad 1)) kiX7_account_X7 kfX7_account_10 rfl dX7_account_100 rfl rfl rfl (by decide) rfl ?_
    refine g_get 106 C (own := RX7) (C1 := RX3) (T := TX3) 1 5 (.ref (ad 6)) kiX7_account_X3 kfX7_account_79 rfl dX7_account_103 rfl rfl rfl (by decide) rfl ?_
    obtain ⟨r3, q4, hF⟩ := sg_bndE hF
    refine g_callVi 109 C (w2 := (ww_X7TNhx Y ad σ)) (As := []) (st := []) (n0 := 0) (ci := 8) (q0 := 6) [6, 7, 8] [0, 1, 2, 3, 4, 5, 9, 10, 11, 12, 13, 14, 15, 16, 17] [0, 1, 2, 3, 4, 5, 15, 16, 17, 6, 7, 8, 9, 10, 11, 12, 13, 14] (c_X6_countAll l hZ (ad := (sg_e1 6 ad)) q4) gX7_account_X6_countAll ⟨rfl, by decide +kernel, by decide +kernel, rfl⟩ rfl ⟨Nat.le_of_ble_eq_true rfl, Nat.le_of_ble_eq_true rfl⟩ rfl rfl ⟨rfl, rfl, rfl, by decide, rfl, rfl⟩ rfl rfl (Nat.le_of_ble_eq_true rfl) ⟨Nat.le_refl _, Nat.le_refl _⟩ dX7_account_106 rfl rfl ?_
    have e1 := sg_someE hF
    exact g_iret C hr rfl hQ hsz dX7_account_109 e1.symm rfl
  rcases sg_iteE hF with ⟨c8, hF⟩ | ⟨c8, hF⟩
  · refine g_tsin (off := 109) C 110 3 dX7_account_1 c8 (by decide) (by decide) (by decide) (by decide) ?_
    refine g_aload_n 111 C dX7_account_110 rfl rfl rfl ?_
    refine g_get 114 C (own := RX7) (C1 := RX7) (T := TX7) 0 0 (.ref (ad 1)) kiX7_account_X7 kfX7_account_10 rfl dX7_account_111 rfl rfl rfl (by decide) rfl ?_
    refine g_get 117 C (own := RX7) (C1 := RX3) (T := TX3) 1 1 (.ref (ad 2)) kiX7_account_X3 kfX7_account_154 rfl dX7_account_114 rfl rfl rfl (by decide) rfl ?_
    obtain ⟨r6, q7, hF⟩ := sg_bndE hF
    refine g_callSi 120 C (w2 := (ww_X7TNhx Y ad σ)) (As := [.ref (ad 2)]) (st := []) (n0 := 1) [2] [0, 1, 3, 4, 5, 6, 7, 8, 9, 10, 11, 12, 13, 14, 15, 16, 17] [0, 1, 17, 2, 3, 4, 5, 6, 7, 8, 9, 10, 11, 12, 13, 14, 15, 16] (c_X7_sumOf l hZ (ad := (sg_e1 2 ad)) q7) gX7_account_X7_sumOf ⟨by decide +kernel, by decide +kernel, rfl⟩ rfl ⟨Nat.le_of_ble_eq_true rfl, Nat.le_of_ble_eq_true rfl⟩ ⟨rfl, rfl, rfl, by decide, rfl, rfl⟩ rfl rfl (Nat.le_of_ble_eq_true rfl) ⟨Nat.le_refl _, Nat.le_refl _⟩ dX7_account_117 rfl rfl ?_
    have e1 := sg_someE hF
    exact g_iret C hr rfl hQ hsz dX7_account_120 e1.symm rfl
  rcases sg_iteE hF with ⟨c11, hF⟩ | ⟨c11, hF⟩
  · refine g_tsin (off := 120) C 121 4 dX7_account_1 c11 (by decide) (by decide) (by decide) (by decide) ?_
    refine g_aload_n 122 C dX7_account_121 rfl rfl rfl ?_
    refine g_get 125 C (own := RX7) (C1 := RX7) (T := TX7) 0 0 (.ref (ad 1)) kiX7_account_X7 kfX7_account_10 rfl dX7_account_122 rfl rfl rfl (by decide) rfl ?_
    refine g_get 128 C (own := RX7) (C1 := RX3) (T := TX3) 1 2 (.ref (ad 3)) kiX7_account_X3 kfX7_account_203 rfl dX7_account_125 rfl rfl rfl (by decide) rfl ?_
    obtain ⟨r9, q10, hF⟩ := sg_bndE hF
    refine g_callSi 131 C (w2 := (ww_X7TNhx Y ad σ)) (As := [.ref (ad 3)]) (st := []) (n0 := 1) [3] [0, 1, 2, 4, 5, 6, 7, 8, 9, 10, 11, 12, 13, 14, 15, 16, 17] [0, 1, 2, 17, 3, 4, 5, 6, 7, 8, 9, 10, 11, 12, 13, 14, 15, 16] (c_X7_sumOf l hZ (ad := (sg_e1 3 ad)) q10) gX7_account_X7_sumOf ⟨by decide +kernel, by decide +kernel, rfl⟩ rfl ⟨Nat.le_of_ble_eq_true rfl, Nat.le_of_ble_eq_true rfl⟩ ⟨rfl, rfl, rfl, by decide, rfl, rfl⟩ rfl rfl (Nat.le_of_ble_eq_true rfl) ⟨Nat.le_refl _, Nat.le_refl _⟩ dX7_account_128 rfl rfl ?_
    have e1 := sg_someE hF
    exact g_iret C hr rfl hQ hsz dX7_account_131 e1.symm rfl
  rcases sg_iteE hF with ⟨c14, hF⟩ | ⟨c14, hF⟩
  · refine g_tsin (off := 131) C 132 5 dX7_account_1 c14 (by decide) (by decide) (by decide) (by decide) ?_
    refine g_aload_n 133 C dX7_account_132 rfl rfl rfl ?_
    refine g_get 136 C (own := RX7) (C1 := RX7) (T := TX7) 0 0 (.ref (ad 1)) kiX7_account_X7 kfX7_account_10 rfl dX7_account_133 rfl rfl rfl (by decide) rfl ?_
    refine g_get 139 C (own := RX7) (C1 := RX3) (T := TX3) 1 4 (.ref (ad 5)) kiX7_account_X3 kfX7_account_148 rfl dX7_account_136 rfl rfl rfl (by decide) rfl ?_
    obtain ⟨r12, q13, hF⟩ := sg_bndE hF
    refine g_callSi 142 C (w2 := (ww_X7TNhx Y ad σ)) (As := [.ref (ad 5)]) (st := []) (n0 := 1) [5] [0, 1, 2, 3, 4, 6, 7, 8, 9, 10, 11, 12, 13, 14, 15, 16, 17] [0, 1, 2, 3, 4, 17, 5, 6, 7, 8, 9, 10, 11, 12, 13, 14, 15, 16] (c_X7_sumOf l hZ (ad := (sg_e1 5 ad)) q13) gX7_account_X7_sumOf ⟨by decide +kernel, by decide +kernel, rfl⟩ rfl ⟨Nat.le_of_ble_eq_true rfl, Nat.le_of_ble_eq_true rfl⟩ ⟨rfl, rfl, rfl, by decide, rfl, rfl⟩ rfl rfl (Nat.le_of_ble_eq_true rfl) ⟨Nat.le_refl _, Nat.le_refl _⟩ dX7_account_139 rfl rfl ?_
    have e1 := sg_someE hF
    exact g_iret C hr rfl hQ hsz dX7_account_142 e1.symm rfl
  rcases sg_iteE hF with ⟨c17, hF⟩ | ⟨c17, hF⟩
  · refine g_tsin (off := 142) C 143 6 dX7_account_1 c17 (by decide) (by decide) (by decide) (by decide) ?_
    refine g_aload_n 144 C dX7_account_143 rfl rfl rfl ?_
    refine g_get 147 C (own := RX7) (C1 := RX7) (T := TX7) 0 0 (.ref (ad 1)) kiX7_account_X7 kfX7_account_10 rfl dX7_account_144 rfl rfl rfl (by decide) rfl ?_
    refine g_get 150 C (own := RX7) (C1 := RX3) (T := TX3) 1 3 (.ref (ad 4)) kiX7_account_X3 kfX7_account_206 rfl dX7_account_147 rfl rfl rfl (by decide) rfl ?_
    obtain ⟨r15, q16, hF⟩ := sg_bndE hF
    refine g_callSi 153 C (w2 := (ww_X7TNhx Y ad σ)) (As := [.ref (ad 4)]) (st := []) (n0 := 1) [4] [0, 1, 2, 3, 5, 6, 7, 8, 9, 10, 11, 12, 13, 14, 15, 16, 17] [0, 1, 2, 3, 17, 4, 5, 6, 7, 8, 9, 10, 11, 12, 13, 14, 15, 16] (c_X7_sumOf l hZ (ad := (sg_e1 4 ad)) q16) gX7_account_X7_sumOf ⟨by decide +kernel, by decide +kernel, rfl⟩ rfl ⟨Nat.le_of_ble_eq_true rfl, Nat.le_of_ble_eq_true rfl⟩ ⟨rfl, rfl, rfl, by decide, rfl, rfl⟩ rfl rfl (Nat.le_of_ble_eq_true rfl) ⟨Nat.le_refl _, Nat.le_refl _⟩ dX7_account_150 rfl rfl ?_
    have e1 := sg_someE hF
    exact g_iret C hr rfl hQ hsz dX7_account_153 e1.symm rfl
  rcases sg_iteE hF with ⟨c20, hF⟩ | ⟨c20, hF⟩
  · refine g_tsin (off := 172) C 173 7 dX7_account_1 c20 (by decide) (by decide) (by decide) (by decide) ?_
    refine g_aload_n 174 C dX7_account_173 rfl rfl rfl ?_
    refine g_get 177 C (own := RX7) (C1 := RX7) (T := TX7) 0 0 (.ref (ad 1)) kiX7_account_X7 kfX7_account_10 rfl dX7_account_174 rfl rfl rfl (by decide) rfl ?_
    refine g_get 180 C (own := RX7) (C1 := RX3) (T := TX3) 1 7 (.ref (ad 13)) kiX7_account_X3 kfX7_account_188 rfl dX7_account_177 rfl rfl rfl (by decide) rfl ?_
    refine g_iload_n 181 C dX7_account_180 rfl rfl rfl ?_
    obtain ⟨r18, q19, hF⟩ := sg_bndE hF
    refine g_callVi 184 C (w2 := (ww_X7TNhx Y ad σ)) (As := [.int x1]) (st := []) (n0 := 1) (ci := 2) (q0 := 13) [13] [0, 1, 2, 3, 4, 5, 6, 7, 8, 9, 10, 11, 12, 14, 15, 16, 17] [0, 1, 2, 3, 4, 5, 6, 7, 8, 9, 10, 11, 12, 17, 13, 14, 15, 16] (c_X0_entryOf l hZ (ad := (sg_e1 13 ad)) q19) gX7_account_X0_entryOf ⟨rfl, by decide +kernel, by decide +kernel, rfl⟩ rfl ⟨Nat.le_of_ble_eq_true rfl, Nat.le_of_ble_eq_true rfl⟩ rfl rfl ⟨rfl, rfl, rfl, by decide, rfl, rfl⟩ rfl rfl (Nat.le_of_ble_eq_true rfl) ⟨Nat.le_refl _, Nat.le_refl _⟩ dX7_account_181 rfl rfl ?_
    have e1 := sg_someE hF
    exact g_iret C hr rfl hQ hsz dX7_account_184 e1.symm rfl
  rcases sg_iteE hF with ⟨c23, hF⟩ | ⟨c23, hF⟩
  · refine g_tsin (off := 172) C 173 8 dX7_account_1 c23 (by decide) (by decide) (by decide) (by decide) ?_
    refine g_aload_n 174 C dX7_account_173 rfl rfl rfl ?_
    refine g_get 177 C (own := RX7) (C1 := RX7) (T := TX7) 0 0 (.ref (ad 1)) kiX7_account_X7 kfX7_account_10 rfl dX7_account_174 rfl rfl rfl (by decide) rfl ?_
    refine g_get 180 C (own := RX7) (C1 := RX3) (T := TX3) 1 7 (.ref (ad 13)) kiX7_account_X3 kfX7_account_188 rfl dX7_account_177 rfl rfl rfl (by decide) rfl ?_
    refine g_iload_n 181 C dX7_account_180 rfl rfl rfl ?_
    obtain ⟨r21, q22, hF⟩ := sg_bndE hF
    refine g_callVi 184 C (w2 := (ww_X7TNhx Y ad σ)) (As := [.int x1]) (st := []) (n0 := 1) (ci := 2) (q0 := 13) [13] [0, 1, 2, 3, 4, 5, 6, 7, 8, 9, 10, 11, 12, 14, 15, 16, 17] [0, 1, 2, 3, 4, 5, 6, 7, 8, 9, 10, 11, 12, 17, 13, 14, 15, 16] (c_X0_entryOf l hZ (ad := (sg_e1 13 ad)) q22) gX7_account_X0_entryOf ⟨rfl, by decide +kernel, by decide +kernel, rfl⟩ rfl ⟨Nat.le_of_ble_eq_true rfl, Nat.le_of_ble_eq_true rfl⟩ rfl rfl ⟨rfl, rfl, rfl, by decide, rfl, rfl⟩ rfl rfl (Nat.le_of_ble_eq_true rfl) ⟨Nat.le_refl _, Nat.le_refl _⟩ dX7_account_181 rfl rfl ?_
    have e1 := sg_someE hF
    exact g_iret C hr rfl hQ hsz dX7_account_184 e1.symm rfl
  rcases sg_iteE hF with ⟨c26, hF⟩ | ⟨c26, hF⟩
  · refine g_tsin (off := 172) C 173 9 dX7_account_1 c26 (by decide) (by decide) (by decide) (by decide) ?_
    refine g_aload_n 174 C dX7_account_173 rfl rfl rfl ?_
    refine g_get 177 C (own := RX7) (C1 := RX7) (T := TX7) 0 0 (.ref (ad 1)) kiX7_account_X7 kfX7_account_10 rfl dX7_account_174 rfl rfl rfl (by decide) rfl ?_
    refine g_get 180 C (own := RX7) (C1 := RX3) (T := TX3) 1 7 (.ref (ad 13)) kiX7_account_X3 kfX7_account_188 rfl dX7_account_177 rfl rfl rfl (by decide) rfl ?_
    refine g_iload_n 181 C dX7_account_180 rfl rfl rfl ?_
    obtain ⟨r24, q25, hF⟩ := sg_bndE hF
    refine g_callVi 184 C (w2 := (ww_X7TNhx Y ad σ)) (As := [.int x1]) (st := []) (n0 := 1) (ci := 2) (q0 := 13) [13] [0, 1, 2, 3, 4, 5, 6, 7, 8, 9, 10, 11, 12, 14, 15, 16, 17] [0, 1, 2, 3, 4, 5, 6, 7, 8, 9, 10, 11, 12, 17, 13, 14, 15, 16] (c_X0_entryOf l hZ (ad := (sg_e1 13 ad)) q25) gX7_account_X0_entryOf ⟨rfl, by decide +kernel, by decide +kernel, rfl⟩ rfl ⟨Nat.le_of_ble_eq_true rfl, Nat.le_of_ble_eq_true rfl⟩ rfl rfl ⟨rfl, rfl, rfl, by decide, rfl, rfl⟩ rfl rfl (Nat.le_of_ble_eq_true rfl) ⟨Nat.le_refl _, Nat.le_refl _⟩ dX7_account_181 rfl rfl ?_
    have e1 := sg_someE hF
    exact g_iret C hr rfl hQ hsz dX7_account_184 e1.symm rfl
  rcases sg_iteE hF with ⟨c29, hF⟩ | ⟨c29, hF⟩
  · refine g_tsin (off := 172) C 173 10 dX7_account_1 c29 (by decide) (by decide) (by decide) (by decide) ?_
    refine g_aload_n 174 C dX7_account_173 rfl rfl rfl ?_
    refine g_get 177 C (own := RX7) (C1 := RX7) (T := TX7) 0 0 (.ref (ad 1)) kiX7_account_X7 kfX7_account_10 rfl dX7_account_174 rfl rfl rfl (by decide) rfl ?_
    refine g_get 180 C (own := RX7) (C1 := RX3) (T := TX3) 1 7 (.ref (ad 13)) kiX7_account_X3 kfX7_account_188 rfl dX7_account_177 rfl rfl rfl (by decide) rfl ?_
    refine g_iload_n 181 C dX7_account_180 rfl rfl rfl ?_
    obtain ⟨r27, q28, hF⟩ := sg_bndE hF
    refine g_callVi 184 C (w2 := (ww_X7TNhx Y ad σ)) (As := [.int x1]) (st := []) (n0 := 1) (ci := 2) (q0 := 13) [13] [0, 1, 2, 3, 4, 5, 6, 7, 8, 9, 10, 11, 12, 14, 15, 16, 17] [0, 1, 2, 3, 4, 5, 6, 7, 8, 9, 10, 11, 12, 17, 13, 14, 15, 16] (c_X0_entryOf l hZ (ad := (sg_e1 13 ad)) q28) gX7_account_X0_entryOf ⟨rfl, by decide +kernel, by decide +kernel, rfl⟩ rfl ⟨Nat.le_of_ble_eq_true rfl, Nat.le_of_ble_eq_true rfl⟩ rfl rfl ⟨rfl, rfl, rfl, by decide, rfl, rfl⟩ rfl rfl (Nat.le_of_ble_eq_true rfl) ⟨Nat.le_refl _, Nat.le_refl _⟩ dX7_account_181 rfl rfl ?_
    have e1 := sg_someE hF
    exact g_iret C hr rfl hQ hsz dX7_account_184 e1.symm rfl
  rcases sg_iteE hF with ⟨c32, hF⟩ | ⟨c32, hF⟩
  · refine g_tsin (off := 172) C 173 11 dX7_account_1 c32 (by decide) (by decide) (by decide) (by decide) ?_
    refine g_aload_n 174 C dX7_account_173 rfl rfl rfl ?_
    refine g_get 177 C (own := RX7) (C1 := RX7) (T := TX7) 0 0 (.ref (ad 1)) kiX7_account_X7 kfX7_account_10 rfl dX7_account_174 rfl rfl rfl (by decide) rfl ?_
    refine g_get 180 C (own := RX7) (C1 := RX3) (T := TX3) 1 7 (.ref (ad 13)) kiX7_account_X3 kfX7_account_188 rfl dX7_account_177 rfl rfl rfl (by decide) rfl ?_
    refine g_iload_n 181 C dX7_account_180 rfl rfl rfl ?_
    obtain ⟨r30, q31, hF⟩ := sg_bndE hF
    refine g_callVi 184 C (w2 := (ww_X7TNhx Y ad σ)) (As := [.int x1]) (st := []) (n0 := 1) (ci := 2) (q0 := 13) [13] [0, 1, 2, 3, 4, 5, 6, 7, 8, 9, 10, 11, 12, 14, 15, 16, 17] [0, 1, 2, 3, 4, 5, 6, 7, 8, 9, 10, 11, 12, 17, 13, 14, 15, 16] (c_X0_entryOf l hZ (ad := (sg_e1 13 ad)) q31) gX7_account_X0_entryOf ⟨rfl, by decide +kernel, by decide +kernel, rfl⟩ rfl ⟨Nat.le_of_ble_eq_true rfl, Nat.le_of_ble_eq_true rfl⟩ rfl rfl ⟨rfl, rfl, rfl, by decide, rfl, rfl⟩ rfl rfl (Nat.le_of_ble_eq_true rfl) ⟨Nat.le_refl _, Nat.le_refl _⟩ dX7_account_181 rfl rfl ?_
    have e1 := sg_someE hF
    exact g_iret C hr rfl hQ hsz dX7_account_184 e1.symm rfl
  rcases sg_iteE hF with ⟨c35, hF⟩ | ⟨c35, hF⟩
  · refine g_tsin (off := 172) C 173 12 dX7_account_1 c35 (by decide) (by decide) (by decide) (by decide) ?_
    refine g_aload_n 174 C dX7_account_173 rfl rfl rfl ?_
    refine g_get 177 C (own := RX7) (C1 := RX7) (T := TX7) 0 0 (.ref (ad 1)) kiX7_account_X7 kfX7_account_10 rfl dX7_account_174 rfl rfl rfl (by decide) rfl ?_
    refine g_get 180 C (own := RX7) (C1 := RX3) (T := TX3) 1 7 (.ref (ad 13)) kiX7_account_X3 kfX7_account_188 rfl dX7_account_177 rfl rfl rfl (by decide) rfl ?_
    refine g_iload_n 181 C dX7_account_180 rfl rfl rfl ?_
    obtain ⟨r33, q34, hF⟩ := sg_bndE hF
    refine g_callVi 184 C (w2 := (ww_X7TNhx Y ad σ)) (As := [.int x1]) (st := []) (n0 := 1) (ci := 2) (q0 := 13) [13] [0, 1, 2, 3, 4, 5, 6, 7, 8, 9, 10, 11, 12, 14, 15, 16, 17] [0, 1, 2, 3, 4, 5, 6, 7, 8, 9, 10, 11, 12, 17, 13, 14, 15, 16] (c_X0_entryOf l hZ (ad := (sg_e1 13 ad)) q34) gX7_account_X0_entryOf ⟨rfl, by decide +kernel, by decide +kernel, rfl⟩ rfl ⟨Nat.le_of_ble_eq_true rfl, Nat.le_of_ble_eq_true rfl⟩ rfl rfl ⟨rfl, rfl, rfl, by decide, rfl, rfl⟩ rfl rfl (Nat.le_of_ble_eq_true rfl) ⟨Nat.le_refl _, Nat.le_refl _⟩ dX7_account_181 rfl rfl ?_
    have e1 := sg_someE hF
    exact g_iret C hr rfl hQ hsz dX7_account_184 e1.symm rfl
  rcases sg_iteE hF with ⟨c38, hF⟩ | ⟨c38, hF⟩
  · refine g_tsin (off := 172) C 173 13 dX7_account_1 c38 (by decide) (by decide) (by decide) (by decide) ?_
    refine g_aload_n 174 C dX7_account_173 rfl rfl rfl ?_
    refine g_get 177 C (own := RX7) (C1 := RX7) (T := TX7) 0 0 (.ref (ad 1)) kiX7_account_X7 kfX7_account_10 rfl dX7_account_174 rfl rfl rfl (by decide) rfl ?_
    refine g_get 180 C (own := RX7) (C1 := RX3) (T := TX3) 1 7 (.ref (ad 13)) kiX7_account_X3 kfX7_account_188 rfl dX7_account_177 rfl rfl rfl (by decide) rfl ?_
    refine g_iload_n 181 C dX7_account_180 rfl rfl rfl ?_
    obtain ⟨r36, q37, hF⟩ := sg_bndE hF
    refine g_callVi 184 C (w2 := (ww_X7TNhx Y ad σ)) (As := [.int x1]) (st := []) (n0 := 1) (ci := 2) (q0 := 13) [13] [0, 1, 2, 3, 4, 5, 6, 7, 8, 9, 10, 11, 12, 14, 15, 16, 17] [0, 1, 2, 3, 4, 5, 6, 7, 8, 9, 10, 11, 12, 17, 13, 14, 15, 16] (c_X0_entryOf l hZ (ad := (sg_e1 13 ad)) q37) gX7_account_X0_entryOf ⟨rfl, by decide +kernel, by decide +kernel, rfl⟩ rfl ⟨Nat.le_of_ble_eq_true rfl, Nat.le_of_ble_eq_true rfl⟩ rfl rfl ⟨rfl, rfl, rfl, by decide, rfl, rfl⟩ rfl rfl (Nat.le_of_ble_eq_true rfl) ⟨Nat.le_refl _, Nat.le_refl _⟩ dX7_account_181 rfl rfl ?_
    have e1 := sg_someE hF
    exact g_iret C hr rfl hQ hsz dX7_account_184 e1.symm rfl
  rcases sg_iteE hF with ⟨c41, hF⟩ | ⟨c41, hF⟩
  · refine g_tsin (off := 153) C 154 14 dX7_account_1 c41 (by decide) (by decide) (by decide) (by decide) ?_
    refine g_aload_n 155 C dX7_account_154 rfl rfl rfl ?_
    refine g_get 158 C (own := RX7) (C1 := RX7) (T := TX7) 0 6 (.ref (ad 160)) kiX7_account_X7 kfX7_account_39 rfl dX7_account_155 rfl rfl rfl (by decide) rfl ?_
    refine g_get 161 C (own := RX7) (C1 := RX5) (T := TX5) 15 0 (.ref (ad 161)) kiX7_account_X5 kfX7_account_209 rfl dX7_account_158 rfl rfl rfl (by decide) rfl ?_
    obtain ⟨r39, q40, hF⟩ := sg_bndE hF
    refine g_callVi 164 C (w2 := (ww_X7TNhx Y ad σ)) (As := []) (st := []) (n0 := 0) (ci := 1) (q0 := 16) [16, 17] [0, 1, 2, 3, 4, 5, 6, 7, 8, 9, 10, 11, 12, 13, 14, 15] [0, 1, 2, 3, 4, 5, 6, 7, 8, 9, 10, 11, 12, 13, 14, 15, 16, 17] (c_J4_length_8abf5 l hZ (ad := (sg_e1 161 ad)) q40) gX7_account_J4_length_8abf5 ⟨rfl, by decide +kernel, by decide +kernel, rfl⟩ rfl ⟨Nat.le_of_ble_eq_true rfl, Nat.le_of_ble_eq_true rfl⟩ rfl rfl ⟨rfl, rfl, rfl, by decide, rfl, rfl⟩ rfl rfl (Nat.le_of_ble_eq_true rfl) ⟨Nat.le_refl _, Nat.le_refl _⟩ dX7_account_161 rfl rfl ?_
    have e1 := sg_someE hF
    exact g_iret C hr rfl hQ hsz dX7_account_164 e1.symm rfl
  rcases sg_iteE hF with ⟨c42, hF⟩ | ⟨c42, hF⟩
  · refine g_tsin (off := 164) C 165 15 dX7_account_1 c42 (by decide) (by decide) (by decide) (by decide) ?_
    refine g_aload_n 166 C dX7_account_165 rfl rfl rfl ?_
    refine g_get 169 C (own := RX7) (C1 := RX7) (T := TX7) 0 5 (.ref (ad 54)) kiX7_account_X7 kfX7_account_32 rfl dX7_account_166 rfl rfl rfl (by decide) rfl ?_
    refine g_get 172 C (own := RX7) (C1 := RX2) (T := TX2) 14 0 (.int (σ 54 0)) kiX7_account_X2 kfX7_account_215 rfl dX7_account_169 rfl rfl rfl (by decide) rfl ?_
    have e1 := sg_someE hF
    exact g_iret C hr rfl hQ hsz dX7_account_172 e1.symm rfl
  have nc1 : Int32.toInt x1 ≠ 0 := sg_neT c1 (by decide)
  have nc2 : Int32.toInt x1 ≠ 1 := sg_neT c2 (by decide)
  have nc5 : Int32.toInt x1 ≠ 2 := sg_neT c5 (by decide)
  have nc8 : Int32.toInt x1 ≠ 3 := sg_neT c8 (by decide)
  have nc11 : Int32.toInt x1 ≠ 4 := sg_neT c11 (by decide)
  have nc14 : Int32.toInt x1 ≠ 5 := sg_neT c14 (by decide)
  have nc17 : Int32.toInt x1 ≠ 6 := sg_neT c17 (by decide)
  have nc20 : Int32.toInt x1 ≠ 7 := sg_neT c20 (by decide)
  have nc23 : Int32.toInt x1 ≠ 8 := sg_neT c23 (by decide)
  have nc26 : Int32.toInt x1 ≠ 9 := sg_neT c26 (by decide)
  have nc29 : Int32.toInt x1 ≠ 10 := sg_neT c29 (by decide)
  have nc32 : Int32.toInt x1 ≠ 11 := sg_neT c32 (by decide)
  have nc35 : Int32.toInt x1 ≠ 12 := sg_neT c35 (by decide)
  have nc38 : Int32.toInt x1 ≠ 13 := sg_neT c38 (by decide)
  have nc41 : Int32.toInt x1 ≠ 14 := sg_neT c41 (by decide)
  have nc42 : Int32.toInt x1 ≠ 15 := sg_neT c42 (by decide)
  refine g_tsout C 173 dX7_account_1 (by omega) (by decide) ?_
  refine g_aload_n 174 C dX7_account_173 rfl rfl rfl ?_
  refine g_get 177 C (own := RX7) (C1 := RX7) (T := TX7) 0 0 (.ref (ad 1)) kiX7_account_X7 kfX7_account_10 rfl dX7_account_174 rfl rfl rfl (by decide) rfl ?_
  refine g_get 180 C (own := RX7) (C1 := RX3) (T := TX3) 1 7 (.ref (ad 13)) kiX7_account_X3 kfX7_account_188 rfl dX7_account_177 rfl rfl rfl (by decide) rfl ?_
  refine g_iload_n 181 C dX7_account_180 rfl rfl rfl ?_
  obtain ⟨r43, q44, hF⟩ := sg_bndE hF
  refine g_callVi 184 C (w2 := (ww_X7TNhx Y ad σ)) (As := [.int x1]) (st := []) (n0 := 1) (ci := 2) (q0 := 13) [13] [0, 1, 2, 3, 4, 5, 6, 7, 8, 9, 10, 11, 12, 14, 15, 16, 17] [0, 1, 2, 3, 4, 5, 6, 7, 8, 9, 10, 11, 12, 17, 13, 14, 15, 16] (c_X0_entryOf l hZ (ad := (sg_e1 13 ad)) q44) gX7_account_X0_entryOf ⟨rfl, by decide +kernel, by decide +kernel, rfl⟩ rfl ⟨Nat.le_of_ble_eq_true rfl, Nat.le_of_ble_eq_true rfl⟩ rfl rfl ⟨rfl, rfl, rfl, by decide, rfl, rfl⟩ rfl rfl (Nat.le_of_ble_eq_true rfl) ⟨Nat.le_refl _, Nat.le_refl _⟩ dX7_account_181 rfl rfl ?_
  have e1 := sg_someE hF
  exact g_iret C hr rfl hQ hsz dX7_account_184 e1.symm rfl
theorem kiX7_written_X7 : ∀ w ∈ u_ws RX7 TX7 10, w ∈ wsX7_written := by decide +kernel
theorem kfX7_written_46 : Cond.fieldLink RX7 46 "WeatherMinistry" "line" "Ljava/lang/StringBuilder;" ∈ wsX7_written := by decide +kernel
def f_X7_written (x1 : Int32) (σ : sg_S) : Option Int32 := (if 0 ≤ x1 then sg_bnd (f_J4_length_8abf5  (sg_e1 177 σ)) (fun r1 => (if x1 < r1 then sg_bnd (f_J4_charAt_5068e x1 (sg_e1 177 σ)) (fun r3 => some r3) else some ((-1)))) else some ((-1)))
set_option maxHeartbeats 4000000 in
set_option maxRecDepth 100000 in
theorem c_X7_written (l : Launch) {D : va_G} {Y : Nat → ClassId} {Z : (Nat → Prop) → State → Heap → Prop} (hZ : sg_Zok Z) {jK jV jT : Nat → Nat} (hJ : sg_ZJ Z jK jV jT) {ad : Nat → Nat} {σ : sg_S} {x1 : Int32} {r : Int32} (hF : f_X7_written x1 σ = some r) : sg_MI l yX7_written wsX7_written 4 88 D Y Z [.ref (ad 0), .int x1] (ww_X7TI Y ad σ) r (ww_X7TI Y ad σ) := by
  intro sz
  refine sg_enter (own := RX7) (maxL := 2) (ret := (some .int)) (cc := cX7_written) (by decide +kernel) rfl rfl (Nat.le_of_ble_eq_true rfl) hZ ?_
  intro p e s m args below meth c C hr Q hQ hsz
  have hJJ := hJ _ _ _ C.2.2.2.2.2.2.2.2.1
  refine g_lv (lv2 := [(0, .ref (ad 0)), (1, .int x1)]) [0, 1] rfl ?_
  rw [f_X7_written] at hF
  refine g_iload_n 1 C dX7_written_0 rfl rfl rfl ?_
  refine g_if_lt 4 26 C dX7_written_1 (by decide) rfl hF (fun hF => ?_) (fun hF => ?_)
  · refine g_iconst 27 C (-1) dX7_written_26 rfl (by decide) ?_
    have e1 := sg_someE hF
    exact g_iret C hr rfl hQ hsz dX7_written_27 e1.symm rfl
  · refine g_iload_n 5 C dX7_written_4 rfl rfl rfl ?_
    refine g_aload_n 6 C dX7_written_5 rfl rfl rfl ?_
    refine g_get 9 C (own := RX7) (C1 := RX7) (T := TX7) 0 7 (.ref (ad 177)) kiX7_written_X7 kfX7_written_46 rfl dX7_written_6 rfl rfl rfl (by decide) rfl ?_
    obtain ⟨r1, q2, hF⟩ := sg_bndE hF
    refine g_callVi 12 C (w2 := (ww_X7TI Y ad σ)) (As := []) (st := [.int x1]) (n0 := 0) (ci := 1) (q0 := 1) [1, 2] [0] [0, 1, 2] (c_J4_length_8abf5 l hZ (ad := (sg_e1 177 ad)) q2) gX7_written_J4_length_8abf5 ⟨rfl, by decide +kernel, by decide +kernel, rfl⟩ rfl ⟨Nat.le_of_ble_eq_true rfl, Nat.le_of_ble_eq_true rfl⟩ rfl rfl ⟨rfl, rfl, rfl, by decide, rfl, rfl⟩ rfl rfl (Nat.le_of_ble_eq_true rfl) ⟨Nat.le_refl _, Nat.le_refl _⟩ dX7_written_9 rfl rfl ?_
    refine g_icmp_ge 15 26 C dX7_written_12 (by decide) rfl hF (fun hF => ?_) (fun hF => ?_)
    · refine g_iconst 27 C (-1) dX7_written_26 rfl (by decide) ?_
      have e1 := sg_someE hF
      exact g_iret C hr rfl hQ hsz dX7_written_27 e1.symm rfl
    · refine g_aload_n 16 C dX7_written_15 rfl rfl rfl ?_
      refine g_get 19 C (own := RX7) (C1 := RX7) (T := TX7) 0 7 (.ref (ad 177)) kiX7_written_X7 kfX7_written_46 rfl dX7_written_16 rfl rfl rfl (by decide) rfl ?_
      refine g_iload_n 20 C dX7_written_19 rfl rfl rfl ?_
      obtain ⟨r3, q4, hF⟩ := sg_bndE hF
      refine g_callVi 23 C (w2 := (ww_X7TI Y ad σ)) (As := [.int x1]) (st := []) (n0 := 1) (ci := 1) (q0 := 1) [1, 2] [0] [0, 1, 2] (c_J4_charAt_5068e l hZ hJ (ad := (sg_e1 177 ad)) q4) gX7_written_J4_charAt_5068e ⟨rfl, by decide +kernel, by decide +kernel, rfl⟩ rfl ⟨Nat.le_of_ble_eq_true rfl, Nat.le_of_ble_eq_true rfl⟩ rfl rfl ⟨rfl, rfl, rfl, by decide, rfl, rfl⟩ rfl rfl (Nat.le_of_ble_eq_true rfl) ⟨Nat.le_refl _, Nat.le_refl _⟩ dX7_written_20 rfl rfl ?_
      refine g_goto 27 C dX7_written_23 (by decide) ?_
      have e1 := sg_someE hF
      exact g_iret C hr rfl hQ hsz dX7_written_27 e1.symm rfl
