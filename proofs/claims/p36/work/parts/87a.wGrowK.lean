/-! BUILDERS that grow further: up to 900 signs -/
set_option maxHeartbeats 4000000 in
set_option maxRecDepth 100000 in
theorem c_J7_copyOf_9075bK (l : Launch) {D : va_G} {Y : Nat → ClassId} {Z : (Nat → Prop) → State → Heap → Prop} (hZ : sg_Zok Z) {ad : Nat → Nat} {σ : sg_S} {x1 : Int32} (h0 : decide (0 ≤ σ 1 0) = true) (h1 : decide (σ 1 0 < x1) = true) (h2 : decide (x1.toNatClampNeg ≤ 900) = true) (h3 : sg_fit (σ 0) (σ 1 0).toNatClampNeg = true) : sg_XR l yJ7_copyOf_9075b wsJ7_copyOf_9075b 1 40 1 900 D Y Z [.ref (ad 0), .int x1] (ww_B Y ad σ) (fun _ : Nat => True) (fun q => q) (fun q => [(ad 0, .inl (Y 1, (σ 1 0).toNatClampNeg, .inl (σ 0))), (q, .inl (Y 1, x1.toNatClampNeg, .inl (va_cpy (σ 0) (fun _ => 0) 0 0 (σ 1 0).toNatClampNeg)))]) := by
  intro sz
  have g0 : 0 ≤ σ 1 0 := of_decide_eq_true h0
  have g1 : σ 1 0 < x1 := of_decide_eq_true h1
  have g2 : x1.toNatClampNeg ≤ 900 := of_decide_eq_true h2
  obtain ⟨g3, g4⟩ := sg_clle g0 g1
  have hne : ¬ x1 = σ 1 0 := fun e => Int32.lt_irrefl (e ▸ g1 : σ 1 0 < σ 1 0)
  have hnl : ¬ x1 < σ 1 0 := fun e => Int32.lt_irrefl (Int32.lt_trans e g1)
  refine sg_enterX (own := RJ7) (maxL := 3) (ret := (some (.array .byte))) (cc := cJ7_copyOf_9075b) (by decide +kernel) rfl rfl (Nat.le_of_ble_eq_true rfl) hZ ?_
  intro p e s m args below meth c C hr hin Q hQ hsz
  refine g_lv (lv2 := [(0, .ref (ad 0)), (1, .int x1)]) [0, 1] rfl ?_
  refine g_iload_n 1 C dJ7_copyOf_9075b_0 rfl rfl rfl ?_
  refine g_aload_n 2 C dJ7_copyOf_9075b_1 rfl rfl rfl ?_
  refine g_alen 3 C (v := σ 1 0) 0 1 dJ7_copyOf_9075b_2 rfl rfl rfl (sg_ofcl h0) ?_
  refine g_icmp_ne 6 14 C dJ7_copyOf_9075b_3 (by decide) rfl (T := some ()) (E := none) (v := ()) (if_neg hne) (fun _ => ?_) (fun h => nomatch h)
  refine g_iload_n 15 C dJ7_copyOf_9075b_14 rfl rfl rfl ?_
  refine g_newaB 17 C kaJ7 (Int32.not_lt.mpr g4) rfl (by show x1.toNatClampNeg * 1 ≤ 536870912; omega) (Nat.le_of_ble_eq_true rfl) (by show 0 + x1.toNatClampNeg ≤ 900; omega) dJ7_copyOf_9075b_15 rfl (fun q => ?_)
  refine g_astore_n 18 C [(2, .ref q), (0, .ref (ad 0)), (1, .int x1)] dJ7_copyOf_9075b_17 rfl rfl (by decide) rfl ?_
  refine g_aload_n 19 C dJ7_copyOf_9075b_18 rfl rfl rfl ?_
  refine g_iconst 20 C 0 dJ7_copyOf_9075b_19 rfl (by decide) ?_
  refine g_aload_n 21 C dJ7_copyOf_9075b_20 rfl rfl rfl ?_
  refine g_iconst 22 C 0 dJ7_copyOf_9075b_21 rfl (by decide) ?_
  refine g_aload_n 23 C dJ7_copyOf_9075b_22 rfl rfl rfl ?_
  refine g_alen 24 C (v := σ 1 0) 0 1 dJ7_copyOf_9075b_23 rfl rfl rfl (sg_ofcl h0) ?_
  refine g_iload_n 25 C dJ7_copyOf_9075b_24 rfl rfl rfl ?_
  refine g_mmin 28 C kmJ7_min ksJ7_min knJ7_math kcJ7_min (Nat.le_of_ble_eq_true rfl) (Nat.le_of_ble_eq_true rfl) (Nat.le_of_ble_eq_true rfl) (by show 0 + x1.toNatClampNeg ≤ 900; omega) dJ7_copyOf_9075b_25 rfl ?_
  refine g_top (v := σ 1 0) (if_neg hnl).symm ?_
  refine g_copyb 31 C (w2 := [(ad 0, .inl (Y 1, (σ 1 0).toNatClampNeg, .inl (σ 0))), (q, .inl (Y 1, x1.toNatClampNeg, .inl (va_cpy (σ 0) (fun _ => 0) 0 0 (σ 1 0).toNatClampNeg)))]) 0 1 kmJ7_ac kvJ7_ac ksJ7_ac knJ7_sys rfl rfl (by decide) (by decide) (Int32.not_lt.mpr g0) (by show 0 + _ ≤ _; omega) (by show 0 + _ ≤ _; omega) (fun i hi => by show fits .byte (.int (σ 0 (0 + i))) = true; rw [Nat.zero_add]; exact sg_fitE h3 i hi) (Nat.le_of_ble_eq_true rfl) (by decide) dJ7_copyOf_9075b_28 rfl rfl ?_
  refine g_aload_n 32 C dJ7_copyOf_9075b_31 rfl rfl rfl ?_
  refine g_widen 1 900 (Nat.le_of_ble_eq_true rfl) (by show 0 + x1.toNatClampNeg ≤ 900; omega) ?_
  exact g_aretX (P := fun (_ : Nat) => True) (ra := fun q => q) (w' := fun q => [(ad 0, .inl (Y 1, (σ 1 0).toNatClampNeg, .inl (σ 0))), (q, .inl (Y 1, x1.toNatClampNeg, .inl (va_cpy (σ 0) (fun _ => 0) 0 0 (σ 1 0).toNatClampNeg)))]) q C hr (Or.inr ⟨_, rfl⟩) hQ hsz dJ7_copyOf_9075b_32 trivial rfl rfl
def f_J5_ensureCapacityInternal_d00dfK (x1 : Int32) (σ : sg_S) : Option sg_S := sg_grd (decide (0 ≤ σ 0 0)) (sg_let ((σ 0 0) >>> ((σ 0 1) &&& 31)) (fun y2 => (if 0 < x1 - y2 then sg_bnd (f_J5_newCapacity_0f7a4 x1 σ) (fun r3 => sg_let (r3 <<< ((σ 0 1) &&& 31)) (fun y5 => sg_grd (decide (0 ≤ σ 0 0)) (sg_grd (decide (σ 0 0 < y5)) (sg_grd (decide (y5.toNatClampNeg ≤ 900)) (sg_grd (sg_fit (σ 1) (σ 0 0).toNatClampNeg) (sg_let (sg_up (sg_ur σ 1 (va_cpy (σ 1) (fun _ => 0) 0 0 (σ 0 0).toNatClampNeg)) 0 0 y5) (fun σ11 => some σ11))))))) else some σ)))
set_option maxHeartbeats 4000000 in
set_option maxRecDepth 100000 in
theorem c_J5_ensureCapacityInternal_d00dfK (l : Launch) {D : va_G} {Y : Nat → ClassId} {Z : (Nat → Prop) → State → Heap → Prop} (hZ : sg_Zok Z) {ad : Nat → Nat} {σ : sg_S} {σ' : sg_S} {x1 : Int32} (hF : f_J5_ensureCapacityInternal_d00dfK x1 σ = some σ') : sg_XV l yJ5_ensureCapacityInternal_d00df wsJ5_ensureCapacityInternal_d00df 3 69 1 900 D Y Z [.ref (ad 0), .int x1] (ww_J4 Y ad σ) (fun _ : Nat => True) (fun q => (ww_J4 Y (sg_ua ad 1 q) σ')) := by
  intro sz
  refine sg_enterX (own := RJ5) (maxL := 3) (ret := none) (cc := cJ5_ensureCapacityInternal_d00df) (by decide +kernel) rfl rfl (Nat.le_of_ble_eq_true rfl) hZ ?_
  intro p e s m args below meth c C hr hin Q hQ hsz
  refine g_lv (lv2 := [(0, .ref (ad 0)), (1, .int x1)]) [0, 1] rfl ?_
  rw [f_J5_ensureCapacityInternal_d00dfK] at hF
  refine g_aload_n 1 C dJ5_ensureCapacityInternal_d00df_0 rfl rfl rfl ?_
  refine g_get 4 C (own := RJ5) (C1 := RJ4) (T := TJ4) 0 0 (.ref (ad 1)) kiJ5_ensureCapacityInternal_d00df_J4 kfJ5_ensureCapacityInternal_d00df_15 rfl dJ5_ensureCapacityInternal_d00df_1 rfl rfl rfl (by decide) rfl ?_
  obtain ⟨h1, hF⟩ := sg_grdE hF
  refine g_alen 5 C (v := σ 0 0) 1 1 dJ5_ensureCapacityInternal_d00df_4 rfl rfl rfl (sg_ofcl h1) ?_
  refine g_aload_n 6 C dJ5_ensureCapacityInternal_d00df_5 rfl rfl rfl ?_
  refine g_get 9 C (own := RJ5) (C1 := RJ4) (T := TJ4) 0 1 (.int (σ 0 1)) kiJ5_ensureCapacityInternal_d00df_J4 kfJ5_ensureCapacityInternal_d00df_22 rfl dJ5_ensureCapacityInternal_d00df_6 rfl rfl rfl (by decide) rfl ?_
  refine g_ishr 10 C dJ5_ensureCapacityInternal_d00df_9 rfl ?_
  obtain ⟨y2, ey2, hF⟩ := sg_letE hF
  refine g_top ey2 ?_
  refine g_istore_n 11 C [(2, .int y2), (0, .ref (ad 0)), (1, .int x1)] dJ5_ensureCapacityInternal_d00df_10 rfl rfl (by decide) rfl ?_
  refine g_iload_n 12 C dJ5_ensureCapacityInternal_d00df_11 rfl rfl rfl ?_
  refine g_iload_n 13 C dJ5_ensureCapacityInternal_d00df_12 rfl rfl rfl ?_
  refine g_isub 14 C dJ5_ensureCapacityInternal_d00df_13 rfl ?_
  refine g_if_le 17 38 C dJ5_ensureCapacityInternal_d00df_14 (by decide) rfl hF (fun hF => ?_) (fun hF => ?_)
  · have e2 := sg_someE hF
    refine g_widen 1 900 (Nat.le_of_ble_eq_true rfl) (Nat.le_of_ble_eq_true rfl) ?_
    exact g_vretX (P := fun (_ : Nat) => True) (w' := fun q => (ww_J4 Y (sg_ua ad 1 q) σ')) (ad 1) C hr hQ hsz dJ5_ensureCapacityInternal_d00df_38 trivial (by subst e2; rfl)
  · refine g_aload_n 18 C dJ5_ensureCapacityInternal_d00df_17 rfl rfl rfl ?_
    refine g_aload_n 19 C dJ5_ensureCapacityInternal_d00df_18 rfl rfl rfl ?_
    refine g_get 22 C (own := RJ5) (C1 := RJ4) (T := TJ4) 0 0 (.ref (ad 1)) kiJ5_ensureCapacityInternal_d00df_J4 kfJ5_ensureCapacityInternal_d00df_15 rfl dJ5_ensureCapacityInternal_d00df_19 rfl rfl rfl (by decide) rfl ?_
    refine g_aload_n 23 C dJ5_ensureCapacityInternal_d00df_22 rfl rfl rfl ?_
    refine g_iload_n 24 C dJ5_ensureCapacityInternal_d00df_23 rfl rfl rfl ?_
    obtain ⟨r3, q4, hF⟩ := sg_bndE hF
    refine g_callUi 27 C (w2 := (ww_J4 Y ad σ)) (As := [.int x1]) (st := [.ref (ad 1), .ref (ad 0)]) (n0 := 1) (C2 := RJ4) (ci := 1) (q0 := 0) (c_J5_newCapacity_0f7a4 l hZ (ad := ad) q4) gJ5_ensureCapacityInternal_d00df_J5_newCapacity_0f7a4_u104J4 rfl ⟨by decide +kernel, by decide +kernel, rfl⟩ rfl ⟨Nat.le_of_ble_eq_true rfl, Nat.le_of_ble_eq_true rfl⟩ rfl rfl sg_cutAll rfl (Nat.le_of_ble_eq_true rfl) ⟨Nat.le_of_ble_eq_true rfl, Nat.le_of_ble_eq_true rfl⟩ dJ5_ensureCapacityInternal_d00df_24 rfl rfl ?_
    refine g_aload_n 28 C dJ5_ensureCapacityInternal_d00df_27 rfl rfl rfl ?_
    refine g_get 31 C (own := RJ5) (C1 := RJ4) (T := TJ4) 0 1 (.int (σ 0 1)) kiJ5_ensureCapacityInternal_d00df_J4 kfJ5_ensureCapacityInternal_d00df_22 rfl dJ5_ensureCapacityInternal_d00df_28 rfl rfl rfl (by decide) rfl ?_
    refine g_ishl 32 C dJ5_ensureCapacityInternal_d00df_31 rfl ?_
    obtain ⟨y5, ey5, hF⟩ := sg_letE hF
    refine g_top ey5 ?_
    obtain ⟨h6, hF⟩ := sg_grdE hF
    obtain ⟨h7, hF⟩ := sg_grdE hF
    obtain ⟨h8, hF⟩ := sg_grdE hF
    obtain ⟨h9, hF⟩ := sg_grdE hF
    refine g_XSr 35 C (w2 := fun q => (ww_J4 Y ad σ) ++ [(q, .inl (Y 1, y5.toNatClampNeg, .inl (va_cpy (σ 1) (fun _ => 0) 0 0 (σ 0 0).toNatClampNeg)))]) (As := [.ref (ad 1), .int y5]) (st := [.ref (ad 0)]) (n0 := 2) (c_J7_copyOf_9075bK l hZ (ad := sg_e2 1 1 0 ad) (σ := sg_e2 1 1 0 σ) h6 h7 h8 h9) gJ5_ensureCapacityInternal_d00df_J7_copyOf_9075b ⟨by decide +kernel, by decide +kernel, rfl⟩ rfl ⟨Nat.le_of_ble_eq_true rfl, Nat.le_of_ble_eq_true rfl⟩ (sg_cutMidX 1 1 rfl (fun _ => rfl)) rfl (Nat.le_of_ble_eq_true rfl) ⟨Nat.le_of_ble_eq_true rfl, Nat.le_of_ble_eq_true rfl⟩ dJ5_ensureCapacityInternal_d00df_32 rfl rfl (fun a10 _ => ?_)
    obtain ⟨σ11, eσ11, hF⟩ := sg_letE hF
    refine g_put 38 C (own := RJ5) (C1 := RJ4) (T := TJ4) (w2 := [(ad 0, .inr (1, [.ref a10, .int (σ 0 1), .int (σ 0 2), .int (σ 0 3)])), (ad 1, .inl (Y 1, (σ 0 0).toNatClampNeg, .inl (σ 1))), (a10, .inl (Y 1, y5.toNatClampNeg, .inl (va_cpy (σ 1) (fun _ => 0) 0 0 (σ 0 0).toNatClampNeg)))]) 0 0 tyJ4 tyJ4_ok nmJ4 kiJ5_ensureCapacityInternal_d00df_J4 kfJ5_ensureCapacityInternal_d00df_15 rfl rfl (ty := .array .byte) (by decide +kernel) rfl rfl (sg_blt rfl) dJ5_ensureCapacityInternal_d00df_35 rfl rfl rfl (by decide) rfl ?_
    refine g_sub (w2 := (ww_J4 Y (sg_ua ad 1 a10) σ11)) [0, 2] (by subst eσ11; rfl) (by decide) ?_
    have e2 := sg_someE hF
    refine g_widen 1 900 (Nat.le_of_ble_eq_true rfl) (Nat.le_of_ble_eq_true rfl) ?_
    exact g_vretX (P := fun (_ : Nat) => True) (w' := fun q => (ww_J4 Y (sg_ua ad 1 q) σ')) (a10) C hr hQ hsz dJ5_ensureCapacityInternal_d00df_38 trivial (by subst e2; rfl)
def f_J5_append_3fe6fK (x1 : Int32) (σ : sg_S) : Option sg_S := sg_bnd (f_J5_ensureCapacityInternal_d00dfK ((σ 0 3) + 1) σ) (fun τ1 => sg_bnd (f_J5_isLatin1_aae02  τ1) (fun r4 => (if r4 = 0 then sg_bnd (f_J5_isLatin1_aae02  τ1) (fun r6 => (if r6 = 0 then sg_let (sg_up τ1 0 3 ((τ1 0 3) + 1)) (fun σ8 => none) else none)) else sg_bnd (f_J1_canEncode_fc78d x1) (fun r9 => (if r9 = 0 then sg_bnd (f_J5_isLatin1_aae02  τ1) (fun r11 => (if r11 = 0 then sg_let (sg_up τ1 0 3 ((τ1 0 3) + 1)) (fun σ13 => none) else none)) else sg_let (sg_up τ1 0 3 ((τ1 0 3) + 1)) (fun σ14 => sg_grd (sg_in (τ1 0 3) (σ14 0 0).toNatClampNeg) (sg_let (sg_up σ14 1 ((τ1 0 3).toNatClampNeg) (x1.toInt8.toInt32).toInt8.toInt32) (fun σ16 => some σ16))))))))
set_option maxHeartbeats 4000000 in
set_option maxRecDepth 100000 in
theorem c_J5_append_3fe6fK (l : Launch) {D : va_G} {Y : Nat → ClassId} {Z : (Nat → Prop) → State → Heap → Prop} (hZ : sg_Zok Z) {jK jV jT : Nat → Nat} (hJ : sg_ZJ Z jK jV jT) {ad : Nat → Nat} {σ : sg_S} {σ' : sg_S} {x1 : Int32} (hF : f_J5_append_3fe6fK x1 σ = some σ') : sg_XR l yJ5_append_3fe6f wsJ5_append_3fe6f 4 91 1 900 D Y Z [.ref (ad 0), .int x1] (ww_J4 Y ad σ) (fun _ : Nat => True) (fun _ => ad 0) (fun q => (ww_J4 Y (sg_ua ad 1 q) σ')) := by
  intro sz
  refine sg_enterX (own := RJ5) (maxL := 2) (ret := (some (.object "java/lang/AbstractStringBuilder"))) (cc := cJ5_append_3fe6f) (by decide +kernel) rfl rfl (Nat.le_of_ble_eq_true rfl) hZ ?_
  intro p e s m args below meth c C hr hin Q hQ hsz
  have hJJ := hJ _ _ _ C.2.2.2.2.2.2.2.2.1
  refine g_lv (lv2 := [(0, .ref (ad 0)), (1, .int x1)]) [0, 1] rfl ?_
  rw [f_J5_append_3fe6fK] at hF
  refine g_aload_n 1 C dJ5_append_3fe6f_0 rfl rfl rfl ?_
  refine g_aload_n 2 C dJ5_append_3fe6f_1 rfl rfl rfl ?_
  refine g_get 5 C (own := RJ5) (C1 := RJ4) (T := TJ4) 0 3 (.int (σ 0 3)) kiJ5_append_3fe6f_J4 kfJ5_append_3fe6f_79 rfl dJ5_append_3fe6f_2 rfl rfl rfl (by decide) rfl ?_
  refine g_iconst 6 C 1 dJ5_append_3fe6f_5 rfl (by decide) ?_
  refine g_iadd 7 C dJ5_append_3fe6f_6 rfl ?_
  obtain ⟨τ1, q2, hF⟩ := sg_bndE hF
  refine g_XUv 10 C (w2 := fun q => (ww_J4 Y (sg_ua ad 1 q) τ1)) (As := [.int ((σ 0 3) + 1)]) (st := []) (n0 := 1) (C2 := RJ4) (ci := 1) (q0 := 0) (c_J5_ensureCapacityInternal_d00dfK l hZ (ad := ad) q2) gJ5_append_3fe6f_J5_ensureCapacityInternal_d00df_u100J4 rfl ⟨by decide +kernel, by decide +kernel, rfl⟩ rfl ⟨Nat.le_of_ble_eq_true rfl, Nat.le_of_ble_eq_true rfl⟩ rfl rfl ⟨[], by rw [List.append_nil], fun _ => List.Perm.of_eq (List.nil_append _)⟩ rfl (Nat.le_of_ble_eq_true rfl) ⟨Nat.le_of_ble_eq_true rfl, Nat.le_of_ble_eq_true rfl⟩ dJ5_append_3fe6f_7 rfl rfl (fun a3 _ => ?_)
  refine g_aload_n 11 C dJ5_append_3fe6f_10 rfl rfl rfl ?_
  obtain ⟨r4, q5, hF⟩ := sg_bndE hF
  refine g_callUi 14 C (w2 := (ww_J4 Y (sg_ua ad 1 a3) τ1)) (As := []) (st := []) (n0 := 0) (C2 := RJ4) (ci := 1) (q0 := 0) (c_J5_isLatin1_aae02 l hZ hJ (ad := (sg_ua ad 1 a3)) q5) gJ5_append_3fe6f_J5_isLatin1_aae02_u83J4 rfl ⟨by decide +kernel, by decide +kernel, rfl⟩ rfl ⟨Nat.le_of_ble_eq_true rfl, Nat.le_of_ble_eq_true rfl⟩ rfl rfl sg_cutAll rfl (Nat.le_of_ble_eq_true rfl) ⟨Nat.le_of_ble_eq_true rfl, Nat.le_of_ble_eq_true rfl⟩ dJ5_append_3fe6f_11 rfl rfl ?_
  refine g_if_eq 17 45 C dJ5_append_3fe6f_14 (by decide) rfl hF (fun hF => ?_) (fun hF => ?_)
  · refine g_aload_n 46 C dJ5_append_3fe6f_45 rfl rfl rfl ?_
    obtain ⟨r6, q7, hF⟩ := sg_bndE hF
    refine g_callUi 49 C (w2 := (ww_J4 Y (sg_ua ad 1 a3) τ1)) (As := []) (st := []) (n0 := 0) (C2 := RJ4) (ci := 1) (q0 := 0) (c_J5_isLatin1_aae02 l hZ hJ (ad := (sg_ua ad 1 a3)) q7) gJ5_append_3fe6f_J5_isLatin1_aae02_u83J4 rfl ⟨by decide +kernel, by decide +kernel, rfl⟩ rfl ⟨Nat.le_of_ble_eq_true rfl, Nat.le_of_ble_eq_true rfl⟩ rfl rfl sg_cutAll rfl (Nat.le_of_ble_eq_true rfl) ⟨Nat.le_of_ble_eq_true rfl, Nat.le_of_ble_eq_true rfl⟩ dJ5_append_3fe6f_46 rfl rfl ?_
    refine g_if_eq 52 56 C dJ5_append_3fe6f_49 (by decide) rfl hF (fun hF => ?_) (fun hF => ?_)
    · refine g_aload_n 57 C dJ5_append_3fe6f_56 rfl rfl rfl ?_
      refine g_get 60 C (own := RJ5) (C1 := RJ4) (T := TJ4) 0 0 (.ref ((sg_ua ad 1 a3) 1)) kiJ5_append_3fe6f_J4 kfJ5_append_3fe6f_15 rfl dJ5_append_3fe6f_57 rfl rfl rfl (by decide) rfl ?_
      refine g_aload_n 61 C dJ5_append_3fe6f_60 rfl rfl rfl ?_
      refine g_dup 62 C dJ5_append_3fe6f_61 rfl rfl ?_
      refine g_get 65 C (own := RJ5) (C1 := RJ4) (T := TJ4) 0 3 (.int (τ1 0 3)) kiJ5_append_3fe6f_J4 kfJ5_append_3fe6f_79 rfl dJ5_append_3fe6f_62 rfl rfl rfl (by decide) rfl ?_
      refine g_dup_x1 66 C dJ5_append_3fe6f_65 rfl rfl rfl ?_
      refine g_iconst 67 C 1 dJ5_append_3fe6f_66 rfl (by decide) ?_
      refine g_iadd 68 C dJ5_append_3fe6f_67 rfl ?_
      obtain ⟨σ8, eσ8, hF⟩ := sg_letE hF
      refine g_put 71 C (own := RJ5) (C1 := RJ4) (T := TJ4) (w2 := (ww_J4 Y (sg_ua ad 1 a3) σ8)) 0 3 tyJ4 tyJ4_ok nmJ4 kiJ5_append_3fe6f_J4 kfJ5_append_3fe6f_79 rfl rfl (ty := .int) (by decide) rfl rfl (sg_blt rfl) dJ5_append_3fe6f_68 rfl rfl rfl (by decide) (by rw [eσ8]; rfl) ?_
      refine g_iload_n 72 C dJ5_append_3fe6f_71 rfl rfl rfl ?_
      exact nomatch hF
    · refine g_aload_n 53 C dJ5_append_3fe6f_52 rfl rfl rfl ?_
      exact nomatch hF
  · refine g_iload_n 18 C dJ5_append_3fe6f_17 rfl rfl rfl ?_
    obtain ⟨r9, q10, hF⟩ := sg_bndE hF
    refine g_callSi 21 C (w2 := (ww_J4 Y (sg_ua ad 1 a3) τ1)) (As := [.int x1]) (st := []) (n0 := 1) [] [0, 1] [0, 1] (c_J1_canEncode_fc78d l hZ (ad := ad) (σ := τ1) q10) gJ5_append_3fe6f_J1_canEncode_fc78d ⟨by decide +kernel, by decide +kernel, rfl⟩ rfl ⟨Nat.le_of_ble_eq_true rfl, Nat.le_of_ble_eq_true rfl⟩ ⟨rfl, rfl, rfl, by decide, rfl, rfl⟩ rfl rfl (Nat.le_of_ble_eq_true rfl) ⟨Nat.le_of_ble_eq_true rfl, Nat.le_of_ble_eq_true rfl⟩ dJ5_append_3fe6f_18 rfl rfl ?_
    refine g_if_eq 24 45 C dJ5_append_3fe6f_21 (by decide) rfl hF (fun hF => ?_) (fun hF => ?_)
    · refine g_aload_n 46 C dJ5_append_3fe6f_45 rfl rfl rfl ?_
      obtain ⟨r11, q12, hF⟩ := sg_bndE hF
      refine g_callUi 49 C (w2 := (ww_J4 Y (sg_ua ad 1 a3) τ1)) (As := []) (st := []) (n0 := 0) (C2 := RJ4) (ci := 1) (q0 := 0) (c_J5_isLatin1_aae02 l hZ hJ (ad := (sg_ua ad 1 a3)) q12) gJ5_append_3fe6f_J5_isLatin1_aae02_u83J4 rfl ⟨by decide +kernel, by decide +kernel, rfl⟩ rfl ⟨Nat.le_of_ble_eq_true rfl, Nat.le_of_ble_eq_true rfl⟩ rfl rfl sg_cutAll rfl (Nat.le_of_ble_eq_true rfl) ⟨Nat.le_of_ble_eq_true rfl, Nat.le_of_ble_eq_true rfl⟩ dJ5_append_3fe6f_46 rfl rfl ?_
      refine g_if_eq 52 56 C dJ5_append_3fe6f_49 (by decide) rfl hF (fun hF => ?_) (fun hF => ?_)
      · refine g_aload_n 57 C dJ5_append_3fe6f_56 rfl rfl rfl ?_
        refine g_get 60 C (own := RJ5) (C1 := RJ4) (T := TJ4) 0 0 (.ref ((sg_ua ad 1 a3) 1)) kiJ5_append_3fe6f_J4 kfJ5_append_3fe6f_15 rfl dJ5_append_3fe6f_57 rfl rfl rfl (by decide) rfl ?_
        refine g_aload_n 61 C dJ5_append_3fe6f_60 rfl rfl rfl ?_
        refine g_dup 62 C dJ5_append_3fe6f_61 rfl rfl ?_
        refine g_get 65 C (own := RJ5) (C1 := RJ4) (T := TJ4) 0 3 (.int (τ1 0 3)) kiJ5_append_3fe6f_J4 kfJ5_append_3fe6f_79 rfl dJ5_append_3fe6f_62 rfl rfl rfl (by decide) rfl ?_
        refine g_dup_x1 66 C dJ5_append_3fe6f_65 rfl rfl rfl ?_
        refine g_iconst 67 C 1 dJ5_append_3fe6f_66 rfl (by decide) ?_
        refine g_iadd 68 C dJ5_append_3fe6f_67 rfl ?_
        obtain ⟨σ13, eσ13, hF⟩ := sg_letE hF
        refine g_put 71 C (own := RJ5) (C1 := RJ4) (T := TJ4) (w2 := (ww_J4 Y (sg_ua ad 1 a3) σ13)) 0 3 tyJ4 tyJ4_ok nmJ4 kiJ5_append_3fe6f_J4 kfJ5_append_3fe6f_79 rfl rfl (ty := .int) (by decide) rfl rfl (sg_blt rfl) dJ5_append_3fe6f_68 rfl rfl rfl (by decide) (by rw [eσ13]; rfl) ?_
        refine g_iload_n 72 C dJ5_append_3fe6f_71 rfl rfl rfl ?_
        exact nomatch hF
      · refine g_aload_n 53 C dJ5_append_3fe6f_52 rfl rfl rfl ?_
        exact nomatch hF
    · refine g_aload_n 25 C dJ5_append_3fe6f_24 rfl rfl rfl ?_
      refine g_get 28 C (own := RJ5) (C1 := RJ4) (T := TJ4) 0 0 (.ref ((sg_ua ad 1 a3) 1)) kiJ5_append_3fe6f_J4 kfJ5_append_3fe6f_15 rfl dJ5_append_3fe6f_25 rfl rfl rfl (by decide) rfl ?_
      refine g_aload_n 29 C dJ5_append_3fe6f_28 rfl rfl rfl ?_
      refine g_dup 30 C dJ5_append_3fe6f_29 rfl rfl ?_
      refine g_get 33 C (own := RJ5) (C1 := RJ4) (T := TJ4) 0 3 (.int (τ1 0 3)) kiJ5_append_3fe6f_J4 kfJ5_append_3fe6f_79 rfl dJ5_append_3fe6f_30 rfl rfl rfl (by decide) rfl ?_
      refine g_dup_x1 34 C dJ5_append_3fe6f_33 rfl rfl rfl ?_
      refine g_iconst 35 C 1 dJ5_append_3fe6f_34 rfl (by decide) ?_
      refine g_iadd 36 C dJ5_append_3fe6f_35 rfl ?_
      obtain ⟨σ14, eσ14, hF⟩ := sg_letE hF
      refine g_put 39 C (own := RJ5) (C1 := RJ4) (T := TJ4) (w2 := (ww_J4 Y (sg_ua ad 1 a3) σ14)) 0 3 tyJ4 tyJ4_ok nmJ4 kiJ5_append_3fe6f_J4 kfJ5_append_3fe6f_79 rfl rfl (ty := .int) (by decide) rfl rfl (sg_blt rfl) dJ5_append_3fe6f_36 rfl rfl rfl (by decide) (by rw [eσ14]; rfl) ?_
      refine g_iload_n 40 C dJ5_append_3fe6f_39 rfl rfl rfl ?_
      refine g_i2b 41 C dJ5_append_3fe6f_40 rfl ?_
      obtain ⟨h15, hF⟩ := sg_grdE hF
      obtain ⟨σ16, eσ16, hF⟩ := sg_letE hF
      refine g_bast 42 C (w2 := (ww_J4 Y (sg_ua ad 1 a3) σ16)) 1 dJ5_append_3fe6f_41 rfl rfl h15 (by rw [eσ16]; rfl) ?_
      refine g_goto 75 C dJ5_append_3fe6f_42 (by decide) ?_
      refine g_aload_n 76 C dJ5_append_3fe6f_75 rfl rfl rfl ?_
      have e2 := sg_someE hF
      refine g_widen 1 900 (Nat.le_of_ble_eq_true rfl) (Nat.le_of_ble_eq_true rfl) ?_
      exact g_aretX (P := fun (_ : Nat) => True) (ra := fun _ => ad 0) (w' := fun q => (ww_J4 Y (sg_ua ad 1 q) σ')) (a3) C hr (Or.inl ⟨_, rfl⟩) hQ hsz dJ5_append_3fe6f_76 trivial rfl (by subst e2; rfl)
def f_J5_append_c97b9K (x1 : Int32) (σ : sg_S) : Option sg_S := sg_let (σ 0 3) (fun y1 => sg_bnd (f_J6_stringSize_0f7a4 x1) (fun r2 => sg_let (y1 + r2) (fun y4 => sg_bnd (f_J5_ensureCapacityInternal_d00dfK y4 σ) (fun τ5 => sg_bnd (f_J5_isLatin1_aae02  τ5) (fun r8 => (if r8 = 0 then none else sg_bnd2 (f_J6_getChars_ba4f3 x1 y4 (sg_e2 1 1 0 τ5)) (fun r12 τ10 => sg_let (sg_ur τ5 1 (τ10 0)) (fun σ13 => sg_let (sg_up σ13 0 3 y4) (fun σ14 => some σ14)))))))))
set_option maxHeartbeats 4000000 in
set_option maxRecDepth 100000 in
theorem c_J5_append_c97b9K (l : Launch) {D : va_G} {Y : Nat → ClassId} {Z : (Nat → Prop) → State → Heap → Prop} (hZ : sg_Zok Z) {jK jV jT : Nat → Nat} (hJ : sg_ZJ Z jK jV jT) {ad : Nat → Nat} {σ : sg_S} {σ' : sg_S} {x1 : Int32} (hF : f_J5_append_c97b9K x1 σ = some σ') : sg_XR l yJ5_append_c97b9 wsJ5_append_c97b9 4 91 1 900 D Y Z [.ref (ad 0), .int x1] (ww_J4 Y ad σ) (fun _ : Nat => True) (fun _ => ad 0) (fun q => (ww_J4 Y (sg_ua ad 1 q) σ')) := by
  intro sz
  refine sg_enterX (own := RJ5) (maxL := 4) (ret := (some (.object "java/lang/AbstractStringBuilder"))) (cc := cJ5_append_c97b9) (by decide +kernel) rfl rfl (Nat.le_of_ble_eq_true rfl) hZ ?_
  intro p e s m args below meth c C hr hin Q hQ hsz
  have hJJ := hJ _ _ _ C.2.2.2.2.2.2.2.2.1
  refine g_lv (lv2 := [(0, .ref (ad 0)), (1, .int x1)]) [0, 1] rfl ?_
  rw [f_J5_append_c97b9K] at hF
  refine g_aload_n 1 C dJ5_append_c97b9_0 rfl rfl rfl ?_
  refine g_get 4 C (own := RJ5) (C1 := RJ4) (T := TJ4) 0 3 (.int (σ 0 3)) kiJ5_append_c97b9_J4 kfJ5_append_c97b9_79 rfl dJ5_append_c97b9_1 rfl rfl rfl (by decide) rfl ?_
  obtain ⟨y1, ey1, hF⟩ := sg_letE hF
  refine g_top ey1 ?_
  refine g_istore_n 5 C [(2, .int y1), (0, .ref (ad 0)), (1, .int x1)] dJ5_append_c97b9_4 rfl rfl (by decide) rfl ?_
  refine g_iload_n 6 C dJ5_append_c97b9_5 rfl rfl rfl ?_
  refine g_iload_n 7 C dJ5_append_c97b9_6 rfl rfl rfl ?_
  obtain ⟨r2, q3, hF⟩ := sg_bndE hF
  refine g_callSi 10 C (w2 := (ww_J4 Y ad σ)) (As := [.int x1]) (st := [.int y1]) (n0 := 1) [] [0, 1] [0, 1] (c_J6_stringSize_0f7a4 l hZ (ad := ad) (σ := σ) q3) gJ5_append_c97b9_J6_stringSize_0f7a4 ⟨by decide +kernel, by decide +kernel, rfl⟩ rfl ⟨Nat.le_of_ble_eq_true rfl, Nat.le_of_ble_eq_true rfl⟩ ⟨rfl, rfl, rfl, by decide, rfl, rfl⟩ rfl rfl (Nat.le_of_ble_eq_true rfl) ⟨Nat.le_of_ble_eq_true rfl, Nat.le_of_ble_eq_true rfl⟩ dJ5_append_c97b9_7 rfl rfl ?_
  refine g_iadd 11 C dJ5_append_c97b9_10 rfl ?_
  obtain ⟨y4, ey4, hF⟩ := sg_letE hF
  refine g_top ey4 ?_
  refine g_istore_n 12 C [(3, .int y4), (2, .int y1), (0, .ref (ad 0)), (1, .int x1)] dJ5_append_c97b9_11 rfl rfl (by decide) rfl ?_
  refine g_aload_n 13 C dJ5_append_c97b9_12 rfl rfl rfl ?_
  refine g_iload_n 14 C dJ5_append_c97b9_13 rfl rfl rfl ?_
  obtain ⟨τ5, q6, hF⟩ := sg_bndE hF
  refine g_XUv 17 C (w2 := fun q => (ww_J4 Y (sg_ua ad 1 q) τ5)) (As := [.int y4]) (st := []) (n0 := 1) (C2 := RJ4) (ci := 1) (q0 := 0) (c_J5_ensureCapacityInternal_d00dfK l hZ (ad := ad) q6) gJ5_append_c97b9_J5_ensureCapacityInternal_d00df_u100J4 rfl ⟨by decide +kernel, by decide +kernel, rfl⟩ rfl ⟨Nat.le_of_ble_eq_true rfl, Nat.le_of_ble_eq_true rfl⟩ rfl rfl ⟨[], by rw [List.append_nil], fun _ => List.Perm.of_eq (List.nil_append _)⟩ rfl (Nat.le_of_ble_eq_true rfl) ⟨Nat.le_of_ble_eq_true rfl, Nat.le_of_ble_eq_true rfl⟩ dJ5_append_c97b9_14 rfl rfl (fun a7 _ => ?_)
  refine g_aload_n 18 C dJ5_append_c97b9_17 rfl rfl rfl ?_
  obtain ⟨r8, q9, hF⟩ := sg_bndE hF
  refine g_callUi 21 C (w2 := (ww_J4 Y (sg_ua ad 1 a7) τ5)) (As := []) (st := []) (n0 := 0) (C2 := RJ4) (ci := 1) (q0 := 0) (c_J5_isLatin1_aae02 l hZ hJ (ad := (sg_ua ad 1 a7)) q9) gJ5_append_c97b9_J5_isLatin1_aae02_u83J4 rfl ⟨by decide +kernel, by decide +kernel, rfl⟩ rfl ⟨Nat.le_of_ble_eq_true rfl, Nat.le_of_ble_eq_true rfl⟩ rfl rfl sg_cutAll rfl (Nat.le_of_ble_eq_true rfl) ⟨Nat.le_of_ble_eq_true rfl, Nat.le_of_ble_eq_true rfl⟩ dJ5_append_c97b9_18 rfl rfl ?_
  refine g_if_eq 24 37 C dJ5_append_c97b9_21 (by decide) rfl hF (fun hF => ?_) (fun hF => ?_)
  · refine g_iload_n 38 C dJ5_append_c97b9_37 rfl rfl rfl ?_
    refine g_iload_n 39 C dJ5_append_c97b9_38 rfl rfl rfl ?_
    refine g_iload_n 40 C dJ5_append_c97b9_39 rfl rfl rfl ?_
    refine g_aload_n 41 C dJ5_append_c97b9_40 rfl rfl rfl ?_
    refine g_get 44 C (own := RJ5) (C1 := RJ4) (T := TJ4) 0 0 (.ref ((sg_ua ad 1 a7) 1)) kiJ5_append_c97b9_J4 kfJ5_append_c97b9_15 rfl dJ5_append_c97b9_41 rfl rfl rfl (by decide) rfl ?_
    exact nomatch hF
  · refine g_iload_n 25 C dJ5_append_c97b9_24 rfl rfl rfl ?_
    refine g_iload_n 26 C dJ5_append_c97b9_25 rfl rfl rfl ?_
    refine g_aload_n 27 C dJ5_append_c97b9_26 rfl rfl rfl ?_
    refine g_get 30 C (own := RJ5) (C1 := RJ4) (T := TJ4) 0 0 (.ref ((sg_ua ad 1 a7) 1)) kiJ5_append_c97b9_J4 kfJ5_append_c97b9_15 rfl dJ5_append_c97b9_27 rfl rfl rfl (by decide) rfl ?_
    obtain ⟨r12, τ10, q11, hF⟩ := sg_bnd2E hF
    obtain ⟨σ13, eσ13, hF⟩ := sg_letE hF
    refine g_callSi 33 C (w2 := (ww_J4 Y (sg_ua ad 1 a7) σ13)) (As := [.int x1, .int y4, .ref ((sg_ua ad 1 a7) 1)]) (st := []) (n0 := 3) [1] [0] [0, 1] (c_J6_getChars_ba4f3 l hZ hJ (ad := (sg_e2 1 1 0 (sg_ua ad 1 a7))) q11) gJ5_append_c97b9_J6_getChars_ba4f3 ⟨by decide +kernel, by decide +kernel, rfl⟩ rfl ⟨Nat.le_of_ble_eq_true rfl, Nat.le_of_ble_eq_true rfl⟩ (by subst eσ13; have fr2 : ww_B Y (sg_e2 1 1 0 (sg_ua ad 1 a7)) τ10 = [((sg_e2 1 1 0 (sg_ua ad 1 a7)) 0, .inl (Y 1, (τ5 0 0).toNatClampNeg, .inl (τ10 0)))] := (by unfold ww_B; rw [show τ10 1 0 = τ5 0 0 from congrFun (fr_getChars q11) 0]); refine ⟨?_, ?_, ?_, ?_, ?_, ?_⟩ <;> first | rfl | decide | (rw [fr2]; rfl)) rfl rfl (Nat.le_of_ble_eq_true rfl) ⟨Nat.le_of_ble_eq_true rfl, Nat.le_of_ble_eq_true rfl⟩ dJ5_append_c97b9_30 rfl rfl ?_
    refine g_pop 34 C dJ5_append_c97b9_33 rfl rfl ?_
    refine g_goto 48 C dJ5_append_c97b9_34 (by decide) ?_
    refine g_aload_n 49 C dJ5_append_c97b9_48 rfl rfl rfl ?_
    refine g_iload_n 50 C dJ5_append_c97b9_49 rfl rfl rfl ?_
    obtain ⟨σ14, eσ14, hF⟩ := sg_letE hF
    refine g_put 53 C (own := RJ5) (C1 := RJ4) (T := TJ4) (w2 := (ww_J4 Y (sg_ua ad 1 a7) σ14)) 0 3 tyJ4 tyJ4_ok nmJ4 kiJ5_append_c97b9_J4 kfJ5_append_c97b9_79 rfl rfl (ty := .int) (by decide) rfl rfl (sg_blt rfl) dJ5_append_c97b9_50 rfl rfl rfl (by decide) (by rw [eσ14]; rfl) ?_
    refine g_aload_n 54 C dJ5_append_c97b9_53 rfl rfl rfl ?_
    have e2 := sg_someE hF
    refine g_widen 1 900 (Nat.le_of_ble_eq_true rfl) (Nat.le_of_ble_eq_true rfl) ?_
    exact g_aretX (P := fun (_ : Nat) => True) (ra := fun _ => ad 0) (w' := fun q => (ww_J4 Y (sg_ua ad 1 q) σ')) (a7) C hr (Or.inl ⟨_, rfl⟩) hQ hsz dJ5_append_c97b9_54 trivial rfl (by subst e2; rfl)
def f_J4_append_cf468K (x1 : Int32) (σ : sg_S) : Option sg_S := sg_bnd (f_J5_append_3fe6fK x1 σ) (fun τ1 => some (τ1))
set_option maxHeartbeats 4000000 in
set_option maxRecDepth 100000 in
theorem c_J4_append_cf468K (l : Launch) {D : va_G} {Y : Nat → ClassId} {Z : (Nat → Prop) → State → Heap → Prop} (hZ : sg_Zok Z) {jK jV jT : Nat → Nat} (hJ : sg_ZJ Z jK jV jT) {ad : Nat → Nat} {σ : sg_S} {σ' : sg_S} {x1 : Int32} (hF : f_J4_append_cf468K x1 σ = some σ') : sg_XR l yJ4_append_cf468 wsJ4_append_cf468 5 112 1 900 D Y Z [.ref (ad 0), .int x1] (ww_J4 Y ad σ) (fun _ : Nat => True) (fun _ => ad 0) (fun q => (ww_J4 Y (sg_ua ad 1 q) σ')) := by
  intro sz
  refine sg_enterX (own := RJ4) (maxL := 2) (ret := (some (.object "java/lang/StringBuilder"))) (cc := cJ4_append_cf468) (by decide +kernel) rfl rfl (Nat.le_of_ble_eq_true rfl) hZ ?_
  intro p e s m args below meth c C hr hin Q hQ hsz
  have hJJ := hJ _ _ _ C.2.2.2.2.2.2.2.2.1
  refine g_lv (lv2 := [(0, .ref (ad 0)), (1, .int x1)]) [0, 1] rfl ?_
  rw [f_J4_append_cf468K] at hF
  refine g_aload_n 1 C dJ4_append_cf468_0 rfl rfl rfl ?_
  refine g_iload_n 2 C dJ4_append_cf468_1 rfl rfl rfl ?_
  obtain ⟨τ1, q2, hF⟩ := sg_bndE hF
  refine g_XSUr 5 C (w2 := fun q => (ww_J4 Y (sg_ua ad 1 q) τ1)) (As := [.int x1]) (st := []) (n0 := 1) (C2 := RJ4) (ci := 1) (q0 := 0) (c_J5_append_3fe6fK l hZ hJ (ad := ad) q2) gJ4_append_cf468_J5_append_3fe6f_s50 ⟨by decide +kernel, rfl⟩ rfl ⟨Nat.le_of_ble_eq_true rfl, Nat.le_of_ble_eq_true rfl⟩ rfl rfl ⟨[], by rw [List.append_nil], fun _ => List.Perm.of_eq (List.nil_append _)⟩ rfl (Nat.le_of_ble_eq_true rfl) ⟨Nat.le_of_ble_eq_true rfl, Nat.le_of_ble_eq_true rfl⟩ dJ4_append_cf468_2 rfl rfl (fun a3 _ => ?_)
  refine g_pop 6 C dJ4_append_cf468_5 rfl rfl ?_
  refine g_aload_n 7 C dJ4_append_cf468_6 rfl rfl rfl ?_
  have e2 := sg_someE hF
  refine g_widen 1 900 (Nat.le_of_ble_eq_true rfl) (Nat.le_of_ble_eq_true rfl) ?_
  exact g_aretX (P := fun (_ : Nat) => True) (ra := fun _ => ad 0) (w' := fun q => (ww_J4 Y (sg_ua ad 1 q) σ')) (a3) C hr (Or.inl ⟨_, rfl⟩) hQ hsz dJ4_append_cf468_7 trivial rfl (by subst e2; rfl)
def f_J4_append_bf812K (x1 : Int32) (σ : sg_S) : Option sg_S := sg_bnd (f_J5_append_c97b9K x1 σ) (fun τ1 => some (τ1))
set_option maxHeartbeats 4000000 in
set_option maxRecDepth 100000 in
theorem c_J4_append_bf812K (l : Launch) {D : va_G} {Y : Nat → ClassId} {Z : (Nat → Prop) → State → Heap → Prop} (hZ : sg_Zok Z) {jK jV jT : Nat → Nat} (hJ : sg_ZJ Z jK jV jT) {ad : Nat → Nat} {σ : sg_S} {σ' : sg_S} {x1 : Int32} (hF : f_J4_append_bf812K x1 σ = some σ') : sg_XR l yJ4_append_bf812 wsJ4_append_bf812 5 114 1 900 D Y Z [.ref (ad 0), .int x1] (ww_J4 Y ad σ) (fun _ : Nat => True) (fun _ => ad 0) (fun q => (ww_J4 Y (sg_ua ad 1 q) σ')) := by
  intro sz
  refine sg_enterX (own := RJ4) (maxL := 2) (ret := (some (.object "java/lang/StringBuilder"))) (cc := cJ4_append_bf812) (by decide +kernel) rfl rfl (Nat.le_of_ble_eq_true rfl) hZ ?_
  intro p e s m args below meth c C hr hin Q hQ hsz
  have hJJ := hJ _ _ _ C.2.2.2.2.2.2.2.2.1
  refine g_lv (lv2 := [(0, .ref (ad 0)), (1, .int x1)]) [0, 1] rfl ?_
  rw [f_J4_append_bf812K] at hF
  refine g_aload_n 1 C dJ4_append_bf812_0 rfl rfl rfl ?_
  refine g_iload_n 2 C dJ4_append_bf812_1 rfl rfl rfl ?_
  obtain ⟨τ1, q2, hF⟩ := sg_bndE hF
  refine g_XSUr 5 C (w2 := fun q => (ww_J4 Y (sg_ua ad 1 q) τ1)) (As := [.int x1]) (st := []) (n0 := 1) (C2 := RJ4) (ci := 1) (q0 := 0) (c_J5_append_c97b9K l hZ hJ (ad := ad) q2) gJ4_append_bf812_J5_append_c97b9_s53 ⟨by decide +kernel, rfl⟩ rfl ⟨Nat.le_of_ble_eq_true rfl, Nat.le_of_ble_eq_true rfl⟩ rfl rfl ⟨[], by rw [List.append_nil], fun _ => List.Perm.of_eq (List.nil_append _)⟩ rfl (Nat.le_of_ble_eq_true rfl) ⟨Nat.le_of_ble_eq_true rfl, Nat.le_of_ble_eq_true rfl⟩ dJ4_append_bf812_2 rfl rfl (fun a3 _ => ?_)
  refine g_pop 6 C dJ4_append_bf812_5 rfl rfl ?_
  refine g_aload_n 7 C dJ4_append_bf812_6 rfl rfl rfl ?_
  have e2 := sg_someE hF
  refine g_widen 1 900 (Nat.le_of_ble_eq_true rfl) (Nat.le_of_ble_eq_true rfl) ?_
  exact g_aretX (P := fun (_ : Nat) => True) (ra := fun _ => ad 0) (w' := fun q => (ww_J4 Y (sg_ua ad 1 q) σ')) (a3) C hr (Or.inl ⟨_, rfl⟩) hQ hsz dJ4_append_bf812_7 trivial rfl (by subst e2; rfl)
