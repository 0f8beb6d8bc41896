def ww_B (Y : Nat → ClassId) (ad : Nat → Nat) (σ : sg_S) : va_W := [(ad 0, .inl (Y 1, (σ 1 0).toNatClampNeg, .inl (σ 0)))]
theorem kmJ7_min : Cond.methodLink RJ7 304 Lib.Math.min.name ∈ wsJ7_copyOf_9075b := by decide +kernel
theorem ksJ7_min : Cond.static Lib.Math.min.name ∈ wsJ7_copyOf_9075b := by decide +kernel
theorem knJ7_math : Cond.initialized "java/lang/Math" ∈ wsJ7_copyOf_9075b := by decide +kernel
theorem kcJ7_min : Cond.code Lib.Math.min.name Lib.Math.min.code 2 (some .int) ∈ wsJ7_copyOf_9075b := by decide +kernel
theorem kmJ7_ac : Cond.methodLink RJ7 150 arraycopyName ∈ wsJ7_copyOf_9075b := by decide +kernel
theorem kvJ7_ac : Cond.native arraycopyName ∈ wsJ7_copyOf_9075b := by decide +kernel
theorem ksJ7_ac : Cond.static arraycopyName ∈ wsJ7_copyOf_9075b := by decide +kernel
theorem knJ7_sys : Cond.initialized "java/lang/System" ∈ wsJ7_copyOf_9075b := by decide +kernel
theorem kaJ7 : Cond.arrayClass .byte ∈ wsJ7_copyOf_9075b := by decide +kernel
set_option maxHeartbeats 4000000 in
set_option maxRecDepth 100000 in
theorem c_J7_copyOf_9075b (l : Launch) {D : va_G} {Y : Nat → ClassId} {Z : (Nat → Prop) → State → Heap → Prop} (hZ : sg_Zok Z) {ad : Nat → Nat} {σ : sg_S} {x1 : Int32} (h0 : decide (0 ≤ σ 1 0) = true) (h1 : decide (σ 1 0 < x1) = true) (h2 : decide (x1.toNatClampNeg ≤ 200) = true) (h3 : sg_fit (σ 0) (σ 1 0).toNatClampNeg = true) : sg_XR l yJ7_copyOf_9075b wsJ7_copyOf_9075b 1 40 1 200 D Y Z [.ref (ad 0), .int x1] (ww_B Y ad σ) (fun _ : Nat => True) (fun q => q) (fun q => [(ad 0, .inl (Y 1, (σ 1 0).toNatClampNeg, .inl (σ 0))), (q, .inl (Y 1, x1.toNatClampNeg, .inl (va_cpy (σ 0) (fun _ => 0) 0 0 (σ 1 0).toNatClampNeg)))]) := by
  intro sz
  have g0 : 0 ≤ σ 1 0 := of_decide_eq_true h0
  have g1 : σ 1 0 < x1 := of_decide_eq_true h1
  have g2 : x1.toNatClampNeg ≤ 200 := of_decide_eq_true h2
  obtain ⟨g3, g4⟩ := sg_clle g0 g1
  have hne : ¬ x1 = σ 1 0 := fun e => Int32.lt_irrefl (e ▸ g1 : σ 1 0 < σ 1 0)
  have hnl : ¬ x1 < σ 1 0 := fun e => Int32.lt_irrefl (Int32.lt_trans e g1)
  refine sg_enterX (own := RJ7) (maxL := 3) (ret := (some (.array .byte))) (cc := cJ7_copyOf_9075b) (by decide +kernel) rfl rfl (Nat.le_of_ble_eq_true rfl) hZ ?_
  intro p e s m args below meth c C hr hin Q hQ hsz
  refine g_lv (lv2 := [(0, .ref (ad 0)), (1, .int x1)]) [0, 1] rfl ?_
  refine g_iload_n 1 C dJ7_copyOf_9075b_0 rfl rfl rfl ?_
  refine g_aload_n 2 C dJ7_copyOf_9075b_1 rfl rfl rfl ?_
  refine g_alen 3 C (v := σ 1 0) 0 1 dJ7_copyOf_9075b_2 rfl rfl rfl (sg_ofcl h0) ?_
  refine g_icmp_ne 6 14 C dJ7_copyOf_9075b_3 (by decide) rfl (T := some ()) (E := none) (v := ()) (if_neg hne) (fun _ => ?_) (fun h => nomatch h)
  refine g_iload_n 15 C dJ7_copyOf_9075b_14 rfl rfl rfl ?_
  refine g_newaB 17 C kaJ7 (Int32.not_lt.mpr g4) rfl (by show x1.toNatClampNeg * 1 ≤ 536870912; omega) (Nat.le_of_ble_eq_true rfl) (by show 0 + x1.toNatClampNeg ≤ 200; omega) dJ7_copyOf_9075b_15 rfl (fun q => ?_)
  refine g_astore_n 18 C [(2, .ref q), (0, .ref (ad 0)), (1, .int x1)] dJ7_copyOf_9075b_17 rfl rfl (by decide) rfl ?_
  refine g_aload_n 19 C dJ7_copyOf_9075b_18 rfl rfl rfl ?_
  refine g_iconst 20 C 0 dJ7_copyOf_9075b_19 rfl (by decide) ?_
  refine g_aload_n 21 C dJ7_copyOf_9075b_20 rfl rfl rfl ?_
  refine g_iconst 22 C 0 dJ7_copyOf_9075b_21 rfl (by decide) ?_
  refine g_aload_n 23 C dJ7_copyOf_9075b_22 rfl rfl rfl ?_
  refine g_alen 24 C (v := σ 1 0) 0 1 dJ7_copyOf_9075b_23 rfl rfl rfl (sg_ofcl h0) ?_
  refine g_iload_n 25 C dJ7_copyOf_9075b_24 rfl rfl rfl ?_
  refine g_mmin 28 C kmJ7_min ksJ7_min knJ7_math kcJ7_min (Nat.le_of_ble_eq_true rfl) (Nat.le_of_ble_eq_true rfl) (Nat.le_of_ble_eq_true rfl) (by show 0 + x1.toNatClampNeg ≤ 200; omega) dJ7_copyOf_9075b_25 rfl ?_
  refine g_top (v := σ 1 0) (if_neg hnl).symm ?_
  refine g_copyb 31 C (w2 := [(ad 0, .inl (Y 1, (σ 1 0).toNatClampNeg, .inl (σ 0))), (q, .inl (Y 1, x1.toNatClampNeg, .inl (va_cpy (σ 0) (fun _ => 0) 0 0 (σ 1 0).toNatClampNeg)))]) 0 1 kmJ7_ac kvJ7_ac ksJ7_ac knJ7_sys rfl rfl (by decide) (by decide) (Int32.not_lt.mpr g0) (by show 0 + _ ≤ _; omega) (by show 0 + _ ≤ _; omega) (fun i hi => by show fits .byte (.int (σ 0 (0 + i))) = true; rw [Nat.zero_add]; exact sg_fitE h3 i hi) (Nat.le_of_ble_eq_true rfl) (by decide) dJ7_copyOf_9075b_28 rfl rfl ?_
  refine g_aload_n 32 C dJ7_copyOf_9075b_31 rfl rfl rfl ?_
  refine g_widen 1 200 (Nat.le_of_ble_eq_true rfl) (by show 0 + x1.toNatClampNeg ≤ 200; omega) ?_
  exact g_aretX (P := fun (_ : Nat) => True) (ra := fun q => q) (w' := fun q => [(ad 0, .inl (Y 1, (σ 1 0).toNatClampNeg, .inl (σ 0))), (q, .inl (Y 1, x1.toNatClampNeg, .inl (va_cpy (σ 0) (fun _ => 0) 0 0 (σ 1 0).toNatClampNeg)))]) q C hr (Or.inr ⟨_, rfl⟩) hQ hsz dJ7_copyOf_9075b_32 trivial rfl rfl
def f_J6_stringSize_0f7a4_L16 : Nat → Int32 → Int32 → Int32 → Int32 → Option Int32
  | 0, _, _, _, _ => none
  | nz + 1, z0, z1, z2, z3 => (if z3 < 10 then (if z2 < z0 then some (z3 + z1) else sg_let (10 * z2) (fun y1 => f_J6_stringSize_0f7a4_L16 nz z0 z1 y1 (z3 + 1))) else some (10 + z1))
def f_J6_stringSize_0f7a4 (x0 : Int32) : Option Int32 := (if 0 ≤ x0 then sg_let (-x0) (fun y2 => f_J6_stringSize_0f7a4_L16 1000 y2 0 (-10) 1) else f_J6_stringSize_0f7a4_L16 1000 x0 1 (-10) 1)
set_option maxHeartbeats 4000000 in
set_option maxRecDepth 100000 in
theorem c_J6_stringSize_0f7a4 (l : Launch) {D : va_G} {Y : Nat → ClassId} {Z : (Nat → Prop) → State → Heap → Prop} (hZ : sg_Zok Z) {ad : Nat → Nat} {σ : sg_S} {x0 : Int32} {r : Int32} (hF : f_J6_stringSize_0f7a4 x0 = some r) : sg_MI l yJ6_stringSize_0f7a4 wsJ6_stringSize_0f7a4 0 0 D Y Z [.int x0] (ww_0 Y ad σ) r (ww_0 Y ad σ) := by
  intro sz
  refine sg_enter (own := RJ6) (maxL := 4) (ret := (some .int)) (cc := cJ6_stringSize_0f7a4) (by decide +kernel) rfl rfl (Nat.le_of_ble_eq_true rfl) hZ ?_
  intro p e s m args below meth c C hr Q hQ hsz
  refine g_lv (lv2 := [(0, .int x0)]) [0] rfl ?_
  have K16 : ∀ (nz : Nat), ∀ (z0 : Int32) (z1 : Int32) (z2 : Int32) (z3 : Int32), f_J6_stringSize_0f7a4_L16 nz z0 z1 z2 z3 = some r → sg_G p l e ({ frames := 0, cells := 0, slots := 0, locals := 0 } : Room) s m args below meth c D (va_A (ww_0 Y ad σ) s.heap.size) 4 0 0 Q 16 [(0, .int z0), (1, .int z1), (2, .int z2), (3, .int z3)] [] (ww_0 Y ad σ) := by
    intro nz
    induction nz with
    | zero =>
      intro z0 z1 z2 z3 hF
      rw [f_J6_stringSize_0f7a4_L16.eq_1] at hF
      exact nomatch hF
    | succ nz ih =>
      intro z0 z1 z2 z3 hF
      rw [f_J6_stringSize_0f7a4_L16.eq_2] at hF
      refine g_iload_n 17 C dJ6_stringSize_0f7a4_16 rfl rfl rfl ?_
      refine g_bipush 19 C 10 dJ6_stringSize_0f7a4_17 rfl (by decide) ?_
      refine g_icmp_ge 22 42 C dJ6_stringSize_0f7a4_19 (by decide) rfl hF (fun hF => ?_) (fun hF => ?_)
      · refine g_bipush 44 C 10 dJ6_stringSize_0f7a4_42 rfl (by decide) ?_
        refine g_iload_n 45 C dJ6_stringSize_0f7a4_44 rfl rfl rfl ?_
        refine g_iadd 46 C dJ6_stringSize_0f7a4_45 rfl ?_
        have e1 := sg_someE hF
        exact g_iret C hr rfl hQ hsz dJ6_stringSize_0f7a4_46 e1.symm rfl
      · refine g_iload_n 23 C dJ6_stringSize_0f7a4_22 rfl rfl rfl ?_
        refine g_iload_n 24 C dJ6_stringSize_0f7a4_23 rfl rfl rfl ?_
        refine g_icmp_le 27 31 C dJ6_stringSize_0f7a4_24 (by decide) rfl hF (fun hF => ?_) (fun hF => ?_)
        · refine g_bipush 33 C 10 dJ6_stringSize_0f7a4_31 rfl (by decide) ?_
          refine g_iload_n 34 C dJ6_stringSize_0f7a4_33 rfl rfl rfl ?_
          refine g_imul 35 C dJ6_stringSize_0f7a4_34 rfl ?_
          obtain ⟨y1, ey1, hF⟩ := sg_letE hF
          refine g_top ey1 ?_
          refine g_istore_n 36 C [(2, .int y1), (0, .int z0), (1, .int z1), (3, .int z3)] dJ6_stringSize_0f7a4_35 rfl rfl (by decide) rfl ?_
          refine g_iinc 39 C 3 (z3 + 1) [(3, .int (z3 + 1)), (2, .int y1), (0, .int z0), (1, .int z1)] dJ6_stringSize_0f7a4_36 rfl rfl rfl (by decide) rfl ?_
          refine g_goto 16 C dJ6_stringSize_0f7a4_39 (by decide) ?_
          refine g_lv (lv2 := [(0, .int z0), (1, .int z1), (2, .int y1), (3, .int (z3 + 1))]) [2, 3, 1, 0] rfl ?_
          exact ih z0 z1 y1 (z3 + 1) hF
        · refine g_iload_n 28 C dJ6_stringSize_0f7a4_27 rfl rfl rfl ?_
          refine g_iload_n 29 C dJ6_stringSize_0f7a4_28 rfl rfl rfl ?_
          refine g_iadd 30 C dJ6_stringSize_0f7a4_29 rfl ?_
          have e1 := sg_someE hF
          exact g_iret C hr rfl hQ hsz dJ6_stringSize_0f7a4_30 e1.symm rfl
  rw [f_J6_stringSize_0f7a4] at hF
  refine g_iconst 1 C 1 dJ6_stringSize_0f7a4_0 rfl (by decide) ?_
  refine g_istore_n 2 C [(1, .int 1), (0, .int x0)] dJ6_stringSize_0f7a4_1 rfl rfl (by decide) rfl ?_
  refine g_iload_n 3 C dJ6_stringSize_0f7a4_2 rfl rfl rfl ?_
  refine g_if_lt 6 11 C dJ6_stringSize_0f7a4_3 (by decide) rfl hF (fun hF => ?_) (fun hF => ?_)
  · refine g_bipush 13 C (-10) dJ6_stringSize_0f7a4_11 rfl (by decide) ?_
    refine g_istore_n 14 C [(2, .int (-10)), (1, .int 1), (0, .int x0)] dJ6_stringSize_0f7a4_13 rfl rfl (by decide) rfl ?_
    refine g_iconst 15 C 1 dJ6_stringSize_0f7a4_14 rfl (by decide) ?_
    refine g_istore_n 16 C [(3, .int 1), (2, .int (-10)), (1, .int 1), (0, .int x0)] dJ6_stringSize_0f7a4_15 rfl rfl (by decide) rfl ?_
    refine g_lv (lv2 := [(0, .int x0), (1, .int 1), (2, .int (-10)), (3, .int 1)]) [3, 2, 1, 0] rfl ?_
    exact K16  1000 x0 1 (-10) 1 hF
  · refine g_iconst 7 C 0 dJ6_stringSize_0f7a4_6 rfl (by decide) ?_
    refine g_istore_n 8 C [(1, .int 0), (0, .int x0)] dJ6_stringSize_0f7a4_7 rfl rfl (by decide) rfl ?_
    refine g_iload_n 9 C dJ6_stringSize_0f7a4_8 rfl rfl rfl ?_
    refine g_ineg 10 C dJ6_stringSize_0f7a4_9 rfl ?_
    obtain ⟨y2, ey2, hF⟩ := sg_letE hF
    refine g_top ey2 ?_
    refine g_istore_n 11 C [(0, .int y2), (1, .int 0)] dJ6_stringSize_0f7a4_10 rfl rfl (by decide) rfl ?_
    refine g_bipush 13 C (-10) dJ6_stringSize_0f7a4_11 rfl (by decide) ?_
    refine g_istore_n 14 C [(2, .int (-10)), (0, .int y2), (1, .int 0)] dJ6_stringSize_0f7a4_13 rfl rfl (by decide) rfl ?_
    refine g_iconst 15 C 1 dJ6_stringSize_0f7a4_14 rfl (by decide) ?_
    refine g_istore_n 16 C [(3, .int 1), (2, .int (-10)), (0, .int y2), (1, .int 0)] dJ6_stringSize_0f7a4_15 rfl rfl (by decide) rfl ?_
    refine g_lv (lv2 := [(0, .int y2), (1, .int 0), (2, .int (-10)), (3, .int 1)]) [2, 3, 1, 0] rfl ?_
    exact K16  1000 y2 0 (-10) 1 hF
theorem kfJ6_getChars_ba4f3_83 : Cond.fieldLink RJ6 83 "java/lang/Integer" "DigitOnes" "[B" ∈ wsJ6_getChars_ba4f3 := by decide +kernel
theorem kfJ6_getChars_ba4f3_87 : Cond.fieldLink RJ6 87 "java/lang/Integer" "DigitTens" "[B" ∈ wsJ6_getChars_ba4f3 := by decide +kernel
def f_J6_getChars_ba4f3_J104 (x1 : Int32) (z5 : Int32) (z6 : Int32) (σz : sg_S) : Option (Int32 × sg_S) := (if z6 = 0 then some (z5, σz) else sg_grd (sg_in (z5 + (-1)) (σz 1 0).toNatClampNeg) (sg_let (sg_up σz 0 ((z5 + (-1)).toNatClampNeg) (45 : Int32).toInt8.toInt32) (fun σ5 => some (z5 + (-1), σ5))))
def f_J6_getChars_ba4f3_L22 (x1 : Int32) : Nat → Int32 → Int32 → Int32 → sg_S → Option (Int32 × sg_S)
  | 0, _, _, _, _ => none
  | nz + 1, z0, z5, z6, σz => (if z0 ≤ (-100) then sg_let (z0 / 100) (fun y9 => sg_let ((y9 * 100) - z0) (fun y10 => sg_grd (sg_in y10 100) (sg_grd (sg_in (z5 + (-1)) (σz 1 0).toNatClampNeg) (sg_let (sg_up σz 0 ((z5 + (-1)).toNatClampNeg) (sg_one y10.toNatClampNeg).toInt8.toInt32) (fun σ13 => sg_grd (sg_in y10 100) (sg_grd (sg_in ((z5 + (-1)) + (-1)) (σ13 1 0).toNatClampNeg) (sg_let (sg_up σ13 0 (((z5 + (-1)) + (-1)).toNatClampNeg) (sg_ten y10.toNatClampNeg).toInt8.toInt32) (fun σ16 => f_J6_getChars_ba4f3_L22 x1 nz y9 ((z5 + (-1)) + (-1)) z6 σ16)))))))) else sg_grd (sg_in (-z0) 100) (sg_grd (sg_in (z5 + (-1)) (σz 1 0).toNatClampNeg) (sg_let (sg_up σz 0 ((z5 + (-1)).toNatClampNeg) (sg_one (-z0).toNatClampNeg).toInt8.toInt32) (fun σ3 => (if z0 < (-9) then sg_grd (sg_in (-z0) 100) (sg_grd (sg_in ((z5 + (-1)) + (-1)) (σ3 1 0).toNatClampNeg) (sg_let (sg_up σ3 0 (((z5 + (-1)) + (-1)).toNatClampNeg) (sg_ten (-z0).toNatClampNeg).toInt8.toInt32) (fun σ8 => f_J6_getChars_ba4f3_J104 x1 ((z5 + (-1)) + (-1)) z6 σ8))) else f_J6_getChars_ba4f3_J104 x1 (z5 + (-1)) z6 σ3)))))
def f_J6_getChars_ba4f3 (x0 : Int32) (x1 : Int32) (σ : sg_S) : Option (Int32 × sg_S) := (if x0 < 0 then (if (1 : Int32) = 0 then sg_let (-x0) (fun y18 => f_J6_getChars_ba4f3_L22 x1 1000 y18 x1 1 σ) else f_J6_getChars_ba4f3_L22 x1 1000 x0 x1 1 σ) else (if (0 : Int32) = 0 then sg_let (-x0) (fun y17 => f_J6_getChars_ba4f3_L22 x1 1000 y17 x1 0 σ) else f_J6_getChars_ba4f3_L22 x1 1000 x0 x1 0 σ))
theorem fr_getJ {x1 z5 z6 r : Int32} {σ τ : sg_S} (h : f_J6_getChars_ba4f3_J104 x1 z5 z6 σ = some (r, τ)) : τ 1 = σ 1 := by
  rw [f_J6_getChars_ba4f3_J104] at h
  split at h
  · rw [(sg_pairE h).2]
  · obtain ⟨_, h⟩ := sg_grdE h
    obtain ⟨σ5, e5, h⟩ := sg_letE h
    rw [(sg_pairE h).2, e5]
    rfl
theorem fr_getL {x1 r : Int32} {τ : sg_S} : ∀ (nz : Nat) (z0 z5 z6 : Int32) (σ : sg_S), f_J6_getChars_ba4f3_L22 x1 nz z0 z5 z6 σ = some (r, τ) → τ 1 = σ 1 := by
  intro nz
  induction nz with
  | zero =>
    intro z0 z5 z6 σ h
    cases h
  | succ n ih =>
    intro z0 z5 z6 σ h
    rw [f_J6_getChars_ba4f3_L22] at h
    split at h
    · obtain ⟨y9, e9, h⟩ := sg_letE h
      obtain ⟨y10, e10, h⟩ := sg_letE h
      obtain ⟨_, h⟩ := sg_grdE h
      obtain ⟨_, h⟩ := sg_grdE h
      obtain ⟨σ13, e13, h⟩ := sg_letE h
      obtain ⟨_, h⟩ := sg_grdE h
      obtain ⟨_, h⟩ := sg_grdE h
      obtain ⟨σ16, e16, h⟩ := sg_letE h
      refine (ih _ _ _ _ h).trans ?_
      rw [e16, e13]
      rfl
    · obtain ⟨_, h⟩ := sg_grdE h
      obtain ⟨_, h⟩ := sg_grdE h
      obtain ⟨σ3, e3, h⟩ := sg_letE h
      split at h
      · obtain ⟨_, h⟩ := sg_grdE h
        obtain ⟨_, h⟩ := sg_grdE h
        obtain ⟨σ8, e8, h⟩ := sg_letE h
        refine (fr_getJ h).trans ?_
        rw [e8, e3]
        rfl
      · refine (fr_getJ h).trans ?_
        rw [e3]
        rfl
theorem fr_getChars {x0 x1 r : Int32} {σ τ : sg_S} (h : f_J6_getChars_ba4f3 x0 x1 σ = some (r, τ)) : τ 1 = σ 1 := by
  rw [f_J6_getChars_ba4f3] at h
  split at h
  · split at h
    · obtain ⟨y, e, h⟩ := sg_letE h
      exact fr_getL _ _ _ _ _ h
    · exact fr_getL _ _ _ _ _ h
  · split at h
    · obtain ⟨y, e, h⟩ := sg_letE h
      exact fr_getL _ _ _ _ _ h
    · exact fr_getL _ _ _ _ _ h
set_option maxHeartbeats 4000000 in
set_option maxRecDepth 100000 in
theorem c_J6_getChars_ba4f3 (l : Launch) {D : va_G} {Y : Nat → ClassId} {Z : (Nat → Prop) → State → Heap → Prop} (hZ : sg_Zok Z) {jK jV jT : Nat → Nat} (hJ : sg_ZJ Z jK jV jT) {ad : Nat → Nat} {σ : sg_S} {σ' : sg_S} {x0 x1 : Int32} {r : Int32} (hF : f_J6_getChars_ba4f3 x0 x1 σ = some (r, σ')) : sg_MI l yJ6_getChars_ba4f3 wsJ6_getChars_ba4f3 0 0 D Y Z [.int x0, .int x1, .ref (ad 0)] (ww_B Y ad σ) r (ww_B Y ad σ') := by
  intro sz
  refine sg_enter (own := RJ6) (maxL := 7) (ret := (some .int)) (cc := cJ6_getChars_ba4f3) (by decide +kernel) rfl rfl (Nat.le_of_ble_eq_true rfl) hZ ?_
  intro p e s m args below meth c C hr Q hQ hsz
  have hJJ := hJ _ _ _ C.2.2.2.2.2.2.2.2.1
  refine g_lv (lv2 := [(0, .int x0), (1, .int x1), (2, .ref (ad 0))]) [0, 1, 2] rfl ?_
  have K104 : ∀ (z5 : Int32) (z6 : Int32) (σz : sg_S), f_J6_getChars_ba4f3_J104 x1 z5 z6 σz = some (r, σ') → sg_G p l e ({ frames := 0, cells := 0, slots := 0, locals := 0 } : Room) s m args below meth c D (va_A (ww_B Y ad σ) s.heap.size) 7 0 0 Q 104 [(2, .ref (ad 0)), (5, .int z5), (6, .int z6)] [] (ww_B Y ad σz) := by
    intro  z5 z6 σz hF
    rw [f_J6_getChars_ba4f3_J104] at hF
    refine g_iload 106 C dJ6_getChars_ba4f3_104 rfl rfl ?_
    refine g_if_eq 109 118 C dJ6_getChars_ba4f3_106 (by decide) rfl hF (fun hF => ?_) (fun hF => ?_)
    · refine g_iload 120 C dJ6_getChars_ba4f3_118 rfl rfl ?_
      obtain ⟨e1, e2⟩ := sg_pairE hF
      exact g_iret C hr rfl hQ hsz dJ6_getChars_ba4f3_120 e1.symm (by rw [e2])
    · refine g_aload_n 110 C dJ6_getChars_ba4f3_109 rfl rfl rfl ?_
      refine g_iinc 113 C 1 (z5 + (-1)) [(5, .int (z5 + (-1))), (2, .ref (ad 0)), (6, .int z6)] dJ6_getChars_ba4f3_110 rfl rfl rfl (by decide) rfl ?_
      refine g_iload 115 C dJ6_getChars_ba4f3_113 rfl rfl ?_
      refine g_bipush 117 C 45 dJ6_getChars_ba4f3_115 rfl (by decide) ?_
      obtain ⟨h4, hF⟩ := sg_grdE hF
      obtain ⟨σ5, eσ5, hF⟩ := sg_letE hF
      refine g_bast 118 C (w2 := (ww_B Y ad σ5)) 0 dJ6_getChars_ba4f3_117 rfl rfl h4 (by rw [eσ5]; rfl) ?_
      refine g_iload 120 C dJ6_getChars_ba4f3_118 rfl rfl ?_
      obtain ⟨e1, e2⟩ := sg_pairE hF
      exact g_iret C hr rfl hQ hsz dJ6_getChars_ba4f3_120 e1.symm (by rw [e2])
  have K22 : ∀ (nz : Nat), ∀ (z0 : Int32) (z5 : Int32) (z6 : Int32) (σz : sg_S), f_J6_getChars_ba4f3_L22 x1 nz z0 z5 z6 σz = some (r, σ') → sg_G p l e ({ frames := 0, cells := 0, slots := 0, locals := 0 } : Room) s m args below meth c D (va_A (ww_B Y ad σ) s.heap.size) 7 0 0 Q 22 [(0, .int z0), (2, .ref (ad 0)), (5, .int z5), (6, .int z6)] [] (ww_B Y ad σz) := by
    intro nz
    induction nz with
    | zero =>
      intro z0 z5 z6 σz hF
      rw [f_J6_getChars_ba4f3_L22.eq_1] at hF
      exact nomatch hF
    | succ nz ih =>
      intro z0 z5 z6 σz hF
      rw [f_J6_getChars_ba4f3_L22.eq_2] at hF
      refine g_iload_n 23 C dJ6_getChars_ba4f3_22 rfl rfl rfl ?_
      refine g_bipush 25 C (-100) dJ6_getChars_ba4f3_23 rfl (by decide) ?_
      refine g_icmp_gt 28 72 C dJ6_getChars_ba4f3_25 (by decide) rfl hF (fun hF => ?_) (fun hF => ?_)
      · refine g_aload_n 73 C dJ6_getChars_ba4f3_72 rfl rfl rfl ?_
        refine g_iinc 76 C 2 (z5 + (-1)) [(5, .int (z5 + (-1))), (0, .int z0), (2, .ref (ad 0)), (6, .int z6)] dJ6_getChars_ba4f3_73 rfl rfl rfl (by decide) rfl ?_
        refine g_iload 78 C dJ6_getChars_ba4f3_76 rfl rfl ?_
        refine g_getsW 81 C hJJ.2.2.2.2.2.1 kfJ6_getChars_ba4f3_83 rfl dJ6_getChars_ba4f3_78 rfl ?_
        refine g_iload_n 82 C dJ6_getChars_ba4f3_81 rfl rfl rfl ?_
        refine g_ineg 83 C dJ6_getChars_ba4f3_82 rfl ?_
        obtain ⟨h1, hF⟩ := sg_grdE hF
        refine g_tbld 84 C (.int (sg_one (-z0).toNatClampNeg)) hJJ.2.2.2.2.2.2 h1 rfl dJ6_getChars_ba4f3_83 rfl ?_
        obtain ⟨h2, hF⟩ := sg_grdE hF
        obtain ⟨σ3, eσ3, hF⟩ := sg_letE hF
        refine g_bast 85 C (w2 := (ww_B Y ad σ3)) 0 dJ6_getChars_ba4f3_84 rfl rfl h2 (by rw [eσ3]; rfl) ?_
        refine g_iload_n 86 C dJ6_getChars_ba4f3_85 rfl rfl rfl ?_
        refine g_bipush 88 C (-9) dJ6_getChars_ba4f3_86 rfl (by decide) ?_
        refine g_icmp_ge 91 104 C dJ6_getChars_ba4f3_88 (by decide) rfl hF (fun hF => ?_) (fun hF => ?_)
        · refine g_lv (lv2 := [(2, .ref (ad 0)), (5, .int (z5 + (-1))), (6, .int z6)]) [2, 0, 3] rfl ?_
          exact K104  (z5 + (-1)) z6 σ3 hF
        · refine g_aload_n 92 C dJ6_getChars_ba4f3_91 rfl rfl rfl ?_
          refine g_iinc 95 C 0 ((z5 + (-1)) + (-1)) [(5, .int ((z5 + (-1)) + (-1))), (0, .int z0), (2, .ref (ad 0)), (6, .int z6)] dJ6_getChars_ba4f3_92 rfl rfl rfl (by decide) rfl ?_
          refine g_iload 97 C dJ6_getChars_ba4f3_95 rfl rfl ?_
          refine g_getsW 100 C hJJ.2.2.2.2.1.1 kfJ6_getChars_ba4f3_87 rfl dJ6_getChars_ba4f3_97 rfl ?_
          refine g_iload_n 101 C dJ6_getChars_ba4f3_100 rfl rfl rfl ?_
          refine g_ineg 102 C dJ6_getChars_ba4f3_101 rfl ?_
          obtain ⟨h6, hF⟩ := sg_grdE hF
          refine g_tbld 103 C (.int (sg_ten (-z0).toNatClampNeg)) hJJ.2.2.2.2.1.2 h6 rfl dJ6_getChars_ba4f3_102 rfl ?_
          obtain ⟨h7, hF⟩ := sg_grdE hF
          obtain ⟨σ8, eσ8, hF⟩ := sg_letE hF
          refine g_bast 104 C (w2 := (ww_B Y ad σ8)) 0 dJ6_getChars_ba4f3_103 rfl rfl h7 (by rw [eσ8]; rfl) ?_
          refine g_lv (lv2 := [(2, .ref (ad 0)), (5, .int ((z5 + (-1)) + (-1))), (6, .int z6)]) [2, 0, 3] rfl ?_
          exact K104  ((z5 + (-1)) + (-1)) z6 σ8 hF
      · refine g_iload_n 29 C dJ6_getChars_ba4f3_28 rfl rfl rfl ?_
        refine g_bipush 31 C 100 dJ6_getChars_ba4f3_29 rfl (by decide) ?_
        refine g_idivc 32 C dJ6_getChars_ba4f3_31 rfl (by decide) ?_
        obtain ⟨y9, ey9, hF⟩ := sg_letE hF
        refine g_top ey9 ?_
        refine g_istore_n 33 C [(3, .int y9), (0, .int z0), (2, .ref (ad 0)), (5, .int z5), (6, .int z6)] dJ6_getChars_ba4f3_32 rfl rfl (by decide) rfl ?_
        refine g_iload_n 34 C dJ6_getChars_ba4f3_33 rfl rfl rfl ?_
        refine g_bipush 36 C 100 dJ6_getChars_ba4f3_34 rfl (by decide) ?_
        refine g_imul 37 C dJ6_getChars_ba4f3_36 rfl ?_
        refine g_iload_n 38 C dJ6_getChars_ba4f3_37 rfl rfl rfl ?_
        refine g_isub 39 C dJ6_getChars_ba4f3_38 rfl ?_
        obtain ⟨y10, ey10, hF⟩ := sg_letE hF
        refine g_top ey10 ?_
        refine g_istore 41 C [(4, .int y10), (3, .int y9), (0, .int z0), (2, .ref (ad 0)), (5, .int z5), (6, .int z6)] dJ6_getChars_ba4f3_39 rfl (by decide) rfl ?_
        refine g_iload_n 42 C dJ6_getChars_ba4f3_41 rfl rfl rfl ?_
        refine g_istore_n 43 C [(0, .int y9), (4, .int y10), (3, .int y9), (2, .ref (ad 0)), (5, .int z5), (6, .int z6)] dJ6_getChars_ba4f3_42 rfl rfl (by decide) rfl ?_
        refine g_aload_n 44 C dJ6_getChars_ba4f3_43 rfl rfl rfl ?_
        refine g_iinc 47 C 4 (z5 + (-1)) [(5, .int (z5 + (-1))), (0, .int y9), (4, .int y10), (3, .int y9), (2, .ref (ad 0)), (6, .int z6)] dJ6_getChars_ba4f3_44 rfl rfl rfl (by decide) rfl ?_
        refine g_iload 49 C dJ6_getChars_ba4f3_47 rfl rfl ?_
        refine g_getsW 52 C hJJ.2.2.2.2.2.1 kfJ6_getChars_ba4f3_83 rfl dJ6_getChars_ba4f3_49 rfl ?_
        refine g_iload 54 C dJ6_getChars_ba4f3_52 rfl rfl ?_
        obtain ⟨h11, hF⟩ := sg_grdE hF
        refine g_tbld 55 C (.int (sg_one y10.toNatClampNeg)) hJJ.2.2.2.2.2.2 h11 rfl dJ6_getChars_ba4f3_54 rfl ?_
        obtain ⟨h12, hF⟩ := sg_grdE hF
        obtain ⟨σ13, eσ13, hF⟩ := sg_letE hF
        refine g_bast 56 C (w2 := (ww_B Y ad σ13)) 0 dJ6_getChars_ba4f3_55 rfl rfl h12 (by rw [eσ13]; rfl) ?_
        refine g_aload_n 57 C dJ6_getChars_ba4f3_56 rfl rfl rfl ?_
        refine g_iinc 60 C 0 ((z5 + (-1)) + (-1)) [(5, .int ((z5 + (-1)) + (-1))), (0, .int y9), (4, .int y10), (3, .int y9), (2, .ref (ad 0)), (6, .int z6)] dJ6_getChars_ba4f3_57 rfl rfl rfl (by decide) rfl ?_
        refine g_iload 62 C dJ6_getChars_ba4f3_60 rfl rfl ?_
        refine g_getsW 65 C hJJ.2.2.2.2.1.1 kfJ6_getChars_ba4f3_87 rfl dJ6_getChars_ba4f3_62 rfl ?_
        refine g_iload 67 C dJ6_getChars_ba4f3_65 rfl rfl ?_
        obtain ⟨h14, hF⟩ := sg_grdE hF
        refine g_tbld 68 C (.int (sg_ten y10.toNatClampNeg)) hJJ.2.2.2.2.1.2 h14 rfl dJ6_getChars_ba4f3_67 rfl ?_
        obtain ⟨h15, hF⟩ := sg_grdE hF
        obtain ⟨σ16, eσ16, hF⟩ := sg_letE hF
        refine g_bast 69 C (w2 := (ww_B Y ad σ16)) 0 dJ6_getChars_ba4f3_68 rfl rfl h15 (by rw [eσ16]; rfl) ?_
        refine g_goto 22 C dJ6_getChars_ba4f3_69 (by decide) ?_
        refine g_lv (lv2 := [(0, .int y9), (2, .ref (ad 0)), (5, .int ((z5 + (-1)) + (-1))), (6, .int z6)]) [1, 4, 0, 5] rfl ?_
        exact ih y9 ((z5 + (-1)) + (-1)) z6 σ16 hF
  rw [f_J6_getChars_ba4f3] at hF
  refine g_iload_n 1 C dJ6_getChars_ba4f3_0 rfl rfl rfl ?_
  refine g_istore 3 C [(5, .int x1), (0, .int x0), (1, .int x1), (2, .ref (ad 0))] dJ6_getChars_ba4f3_1 rfl (by decide) rfl ?_
  refine g_iload_n 4 C dJ6_getChars_ba4f3_3 rfl rfl rfl ?_
  refine g_if_ge 7 11 C dJ6_getChars_ba4f3_4 (by decide) rfl hF (fun hF => ?_) (fun hF => ?_)
  · refine g_iconst 12 C 0 dJ6_getChars_ba4f3_11 rfl (by decide) ?_
    refine g_istore 14 C [(6, .int 0), (5, .int x1), (0, .int x0), (1, .int x1), (2, .ref (ad 0))] dJ6_getChars_ba4f3_12 rfl (by decide) rfl ?_
    refine g_iload 16 C dJ6_getChars_ba4f3_14 rfl rfl ?_
    refine g_if_ne 19 22 C dJ6_getChars_ba4f3_16 (by decide) rfl hF (fun hF => ?_) (fun hF => ?_)
    · refine g_lv (lv2 := [(0, .int x0), (2, .ref (ad 0)), (5, .int x1), (6, .int 0)]) [2, 4, 1, 0] rfl ?_
      exact K22  1000 x0 x1 0 σ hF
    · refine g_iload_n 20 C dJ6_getChars_ba4f3_19 rfl rfl rfl ?_
      refine g_ineg 21 C dJ6_getChars_ba4f3_20 rfl ?_
      obtain ⟨y17, ey17, hF⟩ := sg_letE hF
      refine g_top ey17 ?_
      refine g_istore_n 22 C [(0, .int y17), (6, .int 0), (5, .int x1), (1, .int x1), (2, .ref (ad 0))] dJ6_getChars_ba4f3_21 rfl rfl (by decide) rfl ?_
      refine g_lv (lv2 := [(0, .int y17), (2, .ref (ad 0)), (5, .int x1), (6, .int 0)]) [0, 4, 2, 1] rfl ?_
      exact K22  1000 y17 x1 0 σ hF
  · refine g_iconst 8 C 1 dJ6_getChars_ba4f3_7 rfl (by decide) ?_
    refine g_goto 12 C dJ6_getChars_ba4f3_8 (by decide) ?_
    refine g_istore 14 C [(6, .int 1), (5, .int x1), (0, .int x0), (1, .int x1), (2, .ref (ad 0))] dJ6_getChars_ba4f3_12 rfl (by decide) rfl ?_
    refine g_iload 16 C dJ6_getChars_ba4f3_14 rfl rfl ?_
    refine g_if_ne 19 22 C dJ6_getChars_ba4f3_16 (by decide) rfl hF (fun hF => ?_) (fun hF => ?_)
    · refine g_lv (lv2 := [(0, .int x0), (2, .ref (ad 0)), (5, .int x1), (6, .int 1)]) [2, 4, 1, 0] rfl ?_
      exact K22  1000 x0 x1 1 σ hF
    · refine g_iload_n 20 C dJ6_getChars_ba4f3_19 rfl rfl rfl ?_
      refine g_ineg 21 C dJ6_getChars_ba4f3_20 rfl ?_
      obtain ⟨y18, ey18, hF⟩ := sg_letE hF
      refine g_top ey18 ?_
      refine g_istore_n 22 C [(0, .int y18), (6, .int 1), (5, .int x1), (1, .int x1), (2, .ref (ad 0))] dJ6_getChars_ba4f3_21 rfl rfl (by decide) rfl ?_
      refine g_lv (lv2 := [(0, .int y18), (2, .ref (ad 0)), (5, .int x1), (6, .int 1)]) [0, 4, 2, 1] rfl ?_
      exact K22  1000 y18 x1 1 σ hF
theorem kmJ8_newLength_cabcc_194 : Cond.methodLink RJ8 194 Lib.Math.max.name ∈ wsJ8_newLength_cabcc := by decide +kernel
theorem ksJ8_newLength_cabcc_mmax : Cond.static Lib.Math.max.name ∈ wsJ8_newLength_cabcc := by decide +kernel
theorem knJ8_newLength_cabcc_math : Cond.initialized "java/lang/Math" ∈ wsJ8_newLength_cabcc := by decide +kernel
theorem kcJ8_newLength_cabcc_mmax : Cond.code Lib.Math.max.name Lib.Math.max.code 2 (some .int) ∈ wsJ8_newLength_cabcc := by decide +kernel
theorem kkJ8_newLength_cabcc_200 : Cond.constant RJ8 200 (2147483639) ∈ wsJ8_newLength_cabcc := by decide +kernel
def f_J8_newLength_cabcc (x0 : Int32) (x1 : Int32) (x2 : Int32) : Option Int32 := sg_let (x0 + (if x1 < x2 then x2 else x1)) (fun y1 => (if 0 < y1 then (if y1 ≤ 2147483639 then some y1 else none) else none))
set_option maxHeartbeats 4000000 in
set_option maxRecDepth 100000 in
theorem c_J8_newLength_cabcc (l : Launch) {D : va_G} {Y : Nat → ClassId} {Z : (Nat → Prop) → State → Heap → Prop} (hZ : sg_Zok Z) {ad : Nat → Nat} {σ : sg_S} {x0 x1 x2 : Int32} {r : Int32} (hF : f_J8_newLength_cabcc x0 x1 x2 = some r) : sg_MI l yJ8_newLength_cabcc wsJ8_newLength_cabcc 1 21 D Y Z [.int x0, .int x1, .int x2] (ww_0 Y ad σ) r (ww_0 Y ad σ) := by
  intro sz
  refine sg_enter (own := RJ8) (maxL := 4) (ret := (some .int)) (cc := cJ8_newLength_cabcc) (by decide +kernel) rfl rfl (Nat.le_of_ble_eq_true rfl) hZ ?_
  intro p e s m args below meth c C hr Q hQ hsz
  refine g_lv (lv2 := [(0, .int x0), (1, .int x1), (2, .int x2)]) [0, 1, 2] rfl ?_
  rw [f_J8_newLength_cabcc] at hF
  refine g_iload_n 1 C dJ8_newLength_cabcc_0 rfl rfl rfl ?_
  refine g_iload_n 2 C dJ8_newLength_cabcc_1 rfl rfl rfl ?_
  refine g_iload_n 3 C dJ8_newLength_cabcc_2 rfl rfl rfl ?_
  refine g_mmax 6 C kmJ8_newLength_cabcc_194 ksJ8_newLength_cabcc_mmax knJ8_newLength_cabcc_math kcJ8_newLength_cabcc_mmax (Nat.le_of_ble_eq_true rfl) (Nat.le_of_ble_eq_true rfl) (Nat.le_refl _) (Nat.le_refl _) dJ8_newLength_cabcc_3 rfl ?_
  refine g_iadd 7 C dJ8_newLength_cabcc_6 rfl ?_
  obtain ⟨y1, ey1, hF⟩ := sg_letE hF
  refine g_top ey1 ?_
  refine g_istore_n 8 C [(3, .int y1), (0, .int x0), (1, .int x1), (2, .int x2)] dJ8_newLength_cabcc_7 rfl rfl (by decide) rfl ?_
  refine g_iconst 9 C 0 dJ8_newLength_cabcc_8 rfl (by decide) ?_
  refine g_iload_n 10 C dJ8_newLength_cabcc_9 rfl rfl rfl ?_
  refine g_icmp_ge 13 21 C dJ8_newLength_cabcc_10 (by decide) rfl hF (fun hF => ?_) (fun hF => ?_)
  · refine g_iload_n 22 C dJ8_newLength_cabcc_21 rfl rfl rfl ?_
    refine g_iload_n 23 C dJ8_newLength_cabcc_22 rfl rfl rfl ?_
    exact nomatch hF
  · refine g_iload_n 14 C dJ8_newLength_cabcc_13 rfl rfl rfl ?_
    refine g_ldc 16 C (2147483639) kkJ8_newLength_cabcc_200 dJ8_newLength_cabcc_14 rfl ?_
    refine g_icmp_gt 19 21 C dJ8_newLength_cabcc_16 (by decide) rfl hF (fun hF => ?_) (fun hF => ?_)
    · refine g_iload_n 22 C dJ8_newLength_cabcc_21 rfl rfl rfl ?_
      refine g_iload_n 23 C dJ8_newLength_cabcc_22 rfl rfl rfl ?_
      exact nomatch hF
    · refine g_iload_n 20 C dJ8_newLength_cabcc_19 rfl rfl rfl ?_
      have e1 := sg_someE hF
      exact g_iret C hr rfl hQ hsz dJ8_newLength_cabcc_20 e1.symm rfl
theorem kiJ5_newCapacity_0f7a4_J4 : ∀ w ∈ u_ws RJ4 TJ4 4, w ∈ wsJ5_newCapacity_0f7a4 := by decide +kernel
theorem kfJ5_newCapacity_0f7a4_15 : Cond.fieldLink RJ5 15 "java/lang/AbstractStringBuilder" "value" "[B" ∈ wsJ5_newCapacity_0f7a4 := by decide +kernel
theorem kfJ5_newCapacity_0f7a4_22 : Cond.fieldLink RJ5 22 "java/lang/AbstractStringBuilder" "coder" "B" ∈ wsJ5_newCapacity_0f7a4 := by decide +kernel
theorem kkJ5_newCapacity_0f7a4_39 : Cond.constant RJ5 39 (2147483647) ∈ wsJ5_newCapacity_0f7a4 := by decide +kernel
def f_J5_newCapacity_0f7a4 (x1 : Int32) (σ : sg_S) : Option Int32 := sg_grd (decide (0 ≤ σ 0 0)) (sg_let (σ 0 0) (fun y2 => sg_let (x1 <<< ((σ 0 1) &&& 31)) (fun y3 => sg_let (y3 - y2) (fun y4 => sg_bnd (f_J8_newLength_cabcc y2 y4 (y2 + (2 <<< ((σ 0 1) &&& 31)))) (fun r5 => (if r5 = 2147483647 then none else some (r5 >>> ((σ 0 1) &&& 31))))))))
set_option maxHeartbeats 4000000 in
set_option maxRecDepth 100000 in
theorem c_J5_newCapacity_0f7a4 (l : Launch) {D : va_G} {Y : Nat → ClassId} {Z : (Nat → Prop) → State → Heap → Prop} (hZ : sg_Zok Z) {ad : Nat → Nat} {σ : sg_S} {x1 : Int32} {r : Int32} (hF : f_J5_newCapacity_0f7a4 x1 σ = some r) : sg_MI l yJ5_newCapacity_0f7a4 wsJ5_newCapacity_0f7a4 2 44 D Y Z [.ref (ad 0), .int x1] (ww_J4 Y ad σ) r (ww_J4 Y ad σ) := by
  intro sz
  refine sg_enter (own := RJ5) (maxL := 6) (ret := (some .int)) (cc := cJ5_newCapacity_0f7a4) (by decide +kernel) rfl rfl (Nat.le_of_ble_eq_true rfl) hZ ?_
  intro p e s m args below meth c C hr Q hQ hsz
  refine g_lv (lv2 := [(0, .ref (ad 0)), (1, .int x1)]) [0, 1] rfl ?_
  rw [f_J5_newCapacity_0f7a4] at hF
  refine g_aload_n 1 C dJ5_newCapacity_0f7a4_0 rfl rfl rfl ?_
  refine g_get 4 C (own := RJ5) (C1 := RJ4) (T := TJ4) 0 0 (.ref (ad 1)) kiJ5_newCapacity_0f7a4_J4 kfJ5_newCapacity_0f7a4_15 rfl dJ5_newCapacity_0f7a4_1 rfl rfl rfl (by decide) rfl ?_
  obtain ⟨h1, hF⟩ := sg_grdE hF
  refine g_alen 5 C (v := σ 0 0) 1 1 dJ5_newCapacity_0f7a4_4 rfl rfl rfl (sg_ofcl h1) ?_
  obtain ⟨y2, ey2, hF⟩ := sg_letE hF
  refine g_top ey2 ?_
  refine g_istore_n 6 C [(2, .int y2), (0, .ref (ad 0)), (1, .int x1)] dJ5_newCapacity_0f7a4_5 rfl rfl (by decide) rfl ?_
  refine g_iload_n 7 C dJ5_newCapacity_0f7a4_6 rfl rfl rfl ?_
  refine g_aload_n 8 C dJ5_newCapacity_0f7a4_7 rfl rfl rfl ?_
  refine g_get 11 C (own := RJ5) (C1 := RJ4) (T := TJ4) 0 1 (.int (σ 0 1)) kiJ5_newCapacity_0f7a4_J4 kfJ5_newCapacity_0f7a4_22 rfl dJ5_newCapacity_0f7a4_8 rfl rfl rfl (by decide) rfl ?_
  refine g_ishl 12 C dJ5_newCapacity_0f7a4_11 rfl ?_
  obtain ⟨y3, ey3, hF⟩ := sg_letE hF
  refine g_top ey3 ?_
  refine g_istore_n 13 C [(3, .int y3), (2, .int y2), (0, .ref (ad 0)), (1, .int x1)] dJ5_newCapacity_0f7a4_12 rfl rfl (by decide) rfl ?_
  refine g_iload_n 14 C dJ5_newCapacity_0f7a4_13 rfl rfl rfl ?_
  refine g_iload_n 15 C dJ5_newCapacity_0f7a4_14 rfl rfl rfl ?_
  refine g_isub 16 C dJ5_newCapacity_0f7a4_15 rfl ?_
  obtain ⟨y4, ey4, hF⟩ := sg_letE hF
  refine g_top ey4 ?_
  refine g_istore 18 C [(4, .int y4), (3, .int y3), (2, .int y2), (0, .ref (ad 0)), (1, .int x1)] dJ5_newCapacity_0f7a4_16 rfl (by decide) rfl ?_
  refine g_iload_n 19 C dJ5_newCapacity_0f7a4_18 rfl rfl rfl ?_
  refine g_iload 21 C dJ5_newCapacity_0f7a4_19 rfl rfl ?_
  refine g_iload_n 22 C dJ5_newCapacity_0f7a4_21 rfl rfl rfl ?_
  refine g_iconst 23 C 2 dJ5_newCapacity_0f7a4_22 rfl (by decide) ?_
  refine g_aload_n 24 C dJ5_newCapacity_0f7a4_23 rfl rfl rfl ?_
  refine g_get 27 C (own := RJ5) (C1 := RJ4) (T := TJ4) 0 1 (.int (σ 0 1)) kiJ5_newCapacity_0f7a4_J4 kfJ5_newCapacity_0f7a4_22 rfl dJ5_newCapacity_0f7a4_24 rfl rfl rfl (by decide) rfl ?_
  refine g_ishl 28 C dJ5_newCapacity_0f7a4_27 rfl ?_
  refine g_iadd 29 C dJ5_newCapacity_0f7a4_28 rfl ?_
  obtain ⟨r5, q6, hF⟩ := sg_bndE hF
  refine g_callSi 32 C (w2 := (ww_J4 Y ad σ)) (As := [.int y2, .int y4, .int (y2 + (2 <<< ((σ 0 1) &&& 31)))]) (st := []) (n0 := 3) [] [0, 1] [0, 1] (c_J8_newLength_cabcc l hZ (ad := ad) (σ := σ) q6) gJ5_newCapacity_0f7a4_J8_newLength_cabcc ⟨by decide +kernel, by decide +kernel, rfl⟩ rfl ⟨Nat.le_of_ble_eq_true rfl, Nat.le_of_ble_eq_true rfl⟩ ⟨rfl, rfl, rfl, by decide, rfl, rfl⟩ rfl rfl (Nat.le_of_ble_eq_true rfl) ⟨Nat.le_refl _, Nat.le_refl _⟩ dJ5_newCapacity_0f7a4_29 rfl rfl ?_
  refine g_istore 34 C [(5, .int r5), (4, .int y4), (3, .int y3), (2, .int y2), (0, .ref (ad 0)), (1, .int x1)] dJ5_newCapacity_0f7a4_32 rfl (by decide) rfl ?_
  refine g_iload 36 C dJ5_newCapacity_0f7a4_34 rfl rfl ?_
  refine g_ldc 38 C (2147483647) kkJ5_newCapacity_0f7a4_39 dJ5_newCapacity_0f7a4_36 rfl ?_
  refine g_icmp_ne 41 51 C dJ5_newCapacity_0f7a4_38 (by decide) rfl hF (fun hF => ?_) (fun hF => ?_)
  · refine g_iload 53 C dJ5_newCapacity_0f7a4_51 rfl rfl ?_
    refine g_aload_n 54 C dJ5_newCapacity_0f7a4_53 rfl rfl rfl ?_
    refine g_get 57 C (own := RJ5) (C1 := RJ4) (T := TJ4) 0 1 (.int (σ 0 1)) kiJ5_newCapacity_0f7a4_J4 kfJ5_newCapacity_0f7a4_22 rfl dJ5_newCapacity_0f7a4_54 rfl rfl rfl (by decide) rfl ?_
    refine g_ishr 58 C dJ5_newCapacity_0f7a4_57 rfl ?_
    have e1 := sg_someE hF
    exact g_iret C hr rfl hQ hsz dJ5_newCapacity_0f7a4_58 e1.symm rfl
  · exact nomatch hF
theorem kfJ5_isLatin1_aae02_18 : Cond.fieldLink RJ5 18 "java/lang/String" "COMPACT_STRINGS" "Z" ∈ wsJ5_isLatin1_aae02 := by decide +kernel
theorem kiJ5_isLatin1_aae02_J4 : ∀ w ∈ u_ws RJ4 TJ4 4, w ∈ wsJ5_isLatin1_aae02 := by decide +kernel
theorem kfJ5_isLatin1_aae02_22 : Cond.fieldLink RJ5 22 "java/lang/AbstractStringBuilder" "coder" "B" ∈ wsJ5_isLatin1_aae02 := by decide +kernel
def f_J5_isLatin1_aae02  (σ : sg_S) : Option Int32 := (if (1 : Int32) = 0 then some 0 else (if σ 0 1 = 0 then some 1 else some 0))
set_option maxHeartbeats 4000000 in
set_option maxRecDepth 100000 in
theorem c_J5_isLatin1_aae02 (l : Launch) {D : va_G} {Y : Nat → ClassId} {Z : (Nat → Prop) → State → Heap → Prop} (hZ : sg_Zok Z) {jK jV jT : Nat → Nat} (hJ : sg_ZJ Z jK jV jT) {ad : Nat → Nat} {σ : sg_S} {r : Int32} (hF : f_J5_isLatin1_aae02  σ = some r) : sg_MI l yJ5_isLatin1_aae02 wsJ5_isLatin1_aae02 0 0 D Y Z [.ref (ad 0)] (ww_J4 Y ad σ) r (ww_J4 Y ad σ) := by
  intro sz
  refine sg_enter (own := RJ5) (maxL := 1) (ret := (some .boolean)) (cc := cJ5_isLatin1_aae02) (by decide +kernel) rfl rfl (Nat.le_of_ble_eq_true rfl) hZ ?_
  intro p e s m args below meth c C hr Q hQ hsz
  have hJJ := hJ _ _ _ C.2.2.2.2.2.2.2.2.1
  refine g_lv (lv2 := [(0, .ref (ad 0))]) [0] rfl ?_
  rw [f_J5_isLatin1_aae02] at hF
  refine g_getsW 3 C hJJ.1 kfJ5_isLatin1_aae02_18 rfl dJ5_isLatin1_aae02_0 rfl ?_
  refine g_if_eq 6 17 C dJ5_isLatin1_aae02_3 (by decide) rfl hF (fun hF => ?_) (fun hF => ?_)
  · refine g_iconst 18 C 0 dJ5_isLatin1_aae02_17 rfl (by decide) ?_
    have e1 := sg_someE hF
    exact g_iret C hr rfl hQ hsz dJ5_isLatin1_aae02_18 e1.symm rfl
  · refine g_aload_n 7 C dJ5_isLatin1_aae02_6 rfl rfl rfl ?_
    refine g_get 10 C (own := RJ5) (C1 := RJ4) (T := TJ4) 0 1 (.int (σ 0 1)) kiJ5_isLatin1_aae02_J4 kfJ5_isLatin1_aae02_22 rfl dJ5_isLatin1_aae02_7 rfl rfl rfl (by decide) rfl ?_
    refine g_if_ne 13 17 C dJ5_isLatin1_aae02_10 (by decide) rfl hF (fun hF => ?_) (fun hF => ?_)
    · refine g_iconst 18 C 0 dJ5_isLatin1_aae02_17 rfl (by decide) ?_
      have e1 := sg_someE hF
      exact g_iret C hr rfl hQ hsz dJ5_isLatin1_aae02_18 e1.symm rfl
    · refine g_iconst 14 C 1 dJ5_isLatin1_aae02_13 rfl (by decide) ?_
      refine g_goto 18 C dJ5_isLatin1_aae02_14 (by decide) ?_
      have e1 := sg_someE hF
      exact g_iret C hr rfl hQ hsz dJ5_isLatin1_aae02_18 e1.symm rfl
def f_J1_canEncode_fc78d (x0 : Int32) : Option Int32 := (if x0 ≤ 255 then some 1 else some 0)
set_option maxHeartbeats 4000000 in
set_option maxRecDepth 100000 in
theorem c_J1_canEncode_fc78d (l : Launch) {D : va_G} {Y : Nat → ClassId} {Z : (Nat → Prop) → State → Heap → Prop} (hZ : sg_Zok Z) {ad : Nat → Nat} {σ : sg_S} {x0 : Int32} {r : Int32} (hF : f_J1_canEncode_fc78d x0 = some r) : sg_MI l yJ1_canEncode_fc78d wsJ1_canEncode_fc78d 0 0 D Y Z [.int x0] (ww_0 Y ad σ) r (ww_0 Y ad σ) := by
  intro sz
  refine sg_enter (own := RJ1) (maxL := 1) (ret := (some .boolean)) (cc := cJ1_canEncode_fc78d) (by decide +kernel) rfl rfl (Nat.le_of_ble_eq_true rfl) hZ ?_
  intro p e s m args below meth c C hr Q hQ hsz
  refine g_lv (lv2 := [(0, .int x0)]) [0] rfl ?_
  rw [f_J1_canEncode_fc78d] at hF
  refine g_iload_n 1 C dJ1_canEncode_fc78d_0 rfl rfl rfl ?_
  refine g_sipush 4 C 255 dJ1_canEncode_fc78d_1 rfl (by decide) ?_
  refine g_icmp_gt 7 11 C dJ1_canEncode_fc78d_4 (by decide) rfl hF (fun hF => ?_) (fun hF => ?_)
  · refine g_iconst 12 C 0 dJ1_canEncode_fc78d_11 rfl (by decide) ?_
    have e1 := sg_someE hF
    exact g_iret C hr rfl hQ hsz dJ1_canEncode_fc78d_12 e1.symm rfl
  · refine g_iconst 8 C 1 dJ1_canEncode_fc78d_7 rfl (by decide) ?_
    refine g_goto 12 C dJ1_canEncode_fc78d_8 (by decide) ?_
    have e1 := sg_someE hF
    exact g_iret C hr rfl hQ hsz dJ1_canEncode_fc78d_12 e1.symm rfl
theorem kiJ5_ensureCapacityInternal_d00df_J4 : ∀ w ∈ u_ws RJ4 TJ4 4, w ∈ wsJ5_ensureCapacityInternal_d00df := by decide +kernel
theorem kfJ5_ensureCapacityInternal_d00df_15 : Cond.fieldLink RJ5 15 "java/lang/AbstractStringBuilder" "value" "[B" ∈ wsJ5_ensureCapacityInternal_d00df := by decide +kernel
theorem kfJ5_ensureCapacityInternal_d00df_22 : Cond.fieldLink RJ5 22 "java/lang/AbstractStringBuilder" "coder" "B" ∈ wsJ5_ensureCapacityInternal_d00df := by decide +kernel
def f_J5_ensureCapacityInternal_d00df (x1 : Int32) (σ : sg_S) : Option sg_S := sg_grd (decide (0 ≤ σ 0 0)) (sg_let ((σ 0 0) >>> ((σ 0 1) &&& 31)) (fun y2 => (if 0 < x1 - y2 then sg_bnd (f_J5_newCapacity_0f7a4 x1 σ) (fun r3 => sg_let (r3 <<< ((σ 0 1) &&& 31)) (fun y5 => sg_grd (decide (0 ≤ σ 0 0)) (sg_grd (decide (σ 0 0 < y5)) (sg_grd (decide (y5.toNatClampNeg ≤ 200)) (sg_grd (sg_fit (σ 1) (σ 0 0).toNatClampNeg) (sg_let (sg_up (sg_ur σ 1 (va_cpy (σ 1) (fun _ => 0) 0 0 (σ 0 0).toNatClampNeg)) 0 0 y5) (fun σ11 => some σ11))))))) else some σ)))
set_option maxHeartbeats 4000000 in
set_option maxRecDepth 100000 in
theorem c_J5_ensureCapacityInternal_d00df (l : Launch) {D : va_G} {Y : Nat → ClassId} {Z : (Nat → Prop) → State → Heap → Prop} (hZ : sg_Zok Z) {ad : Nat → Nat} {σ : sg_S} {σ' : sg_S} {x1 : Int32} (hF : f_J5_ensureCapacityInternal_d00df x1 σ = some σ') : sg_XV l yJ5_ensureCapacityInternal_d00df wsJ5_ensureCapacityInternal_d00df 3 69 1 200 D Y Z [.ref (ad 0), .int x1] (ww_J4 Y ad σ) (fun _ : Nat => True) (fun q => (ww_J4 Y (sg_ua ad 1 q) σ')) := by
  intro sz
  refine sg_enterX (own := RJ5) (maxL := 3) (ret := none) (cc := cJ5_ensureCapacityInternal_d00df) (by decide +kernel) rfl rfl (Nat.le_of_ble_eq_true rfl) hZ ?_
  intro p e s m args below meth c C hr hin Q hQ hsz
  refine g_lv (lv2 := [(0, .ref (ad 0)), (1, .int x1)]) [0, 1] rfl ?_
  rw [f_J5_ensureCapacityInternal_d00df] at hF
  refine g_aload_n 1 C dJ5_ensureCapacityInternal_d00df_0 rfl rfl rfl ?_
  refine g_get 4 C (own := RJ5) (C1 := RJ4) (T := TJ4) 0 0 (.ref (ad 1)) kiJ5_ensureCapacityInternal_d00df_J4 kfJ5_ensureCapacityInternal_d00df_15 rfl dJ5_ensureCapacityInternal_d00df_1 rfl rfl rfl (by decide) rfl ?_
  obtain ⟨h1, hF⟩ := sg_grdE hF
  refine g_alen 5 C (v := σ 0 0) 1 1 dJ5_ensureCapacityInternal_d00df_4 rfl rfl rfl (sg_ofcl h1) ?_
  refine g_aload_n 6 C dJ5_ensureCapacityInternal_d00df_5 rfl rfl rfl ?_
  refine g_get 9 C (own := RJ5) (C1 := RJ4) (T := TJ4) 0 1 (.int (σ 0 1)) kiJ5_ensureCapacityInternal_d00df_J4 kfJ5_ensureCapacityInternal_d00df_22 rfl dJ5_ensureCapacityInternal_d00df_6 rfl rfl rfl (by decide) rfl ?_
  refine g_ishr 10 C dJ5_ensureCapacityInternal_d00df_9 rfl ?_
  obtain ⟨y2, ey2, hF⟩ := sg_letE hF
  refine g_top ey2 ?_
  refine g_istore_n 11 C [(2, .int y2), (0, .ref (ad 0)), (1, .int x1)] dJ5_ensureCapacityInternal_d00df_10 rfl rfl (by decide) rfl ?_
  refine g_iload_n 12 C dJ5_ensureCapacityInternal_d00df_11 rfl rfl rfl ?_
  refine g_iload_n 13 C dJ5_ensureCapacityInternal_d00df_12 rfl rfl rfl ?_
  refine g_isub 14 C dJ5_ensureCapacityInternal_d00df_13 rfl ?_
  refine g_if_le 17 38 C dJ5_ensureCapacityInternal_d00df_14 (by decide) rfl hF (fun hF => ?_) (fun hF => ?_)
  · have e2 := sg_someE hF
    refine g_widen 1 200 (Nat.le_of_ble_eq_true rfl) (Nat.le_of_ble_eq_true rfl) ?_
    exact g_vretX (P := fun (_ : Nat) => True) (w' := fun q => (ww_J4 Y (sg_ua ad 1 q) σ')) (ad 1) C hr hQ hsz dJ5_ensureCapacityInternal_d00df_38 trivial (by subst e2; rfl)
  · refine g_aload_n 18 C dJ5_ensureCapacityInternal_d00df_17 rfl rfl rfl ?_
    refine g_aload_n 19 C dJ5_ensureCapacityInternal_d00df_18 rfl rfl rfl ?_
    refine g_get 22 C (own := RJ5) (C1 := RJ4) (T := TJ4) 0 0 (.ref (ad 1)) kiJ5_ensureCapacityInternal_d00df_J4 kfJ5_ensureCapacityInternal_d00df_15 rfl dJ5_ensureCapacityInternal_d00df_19 rfl rfl rfl (by decide) rfl ?_
    refine g_aload_n 23 C dJ5_ensureCapacityInternal_d00df_22 rfl rfl rfl ?_
    refine g_iload_n 24 C dJ5_ensureCapacityInternal_d00df_23 rfl rfl rfl ?_
    obtain ⟨r3, q4, hF⟩ := sg_bndE hF
    refine g_callUi 27 C (w2 := (ww_J4 Y ad σ)) (As := [.int x1]) (st := [.ref (ad 1), .ref (ad 0)]) (n0 := 1) (C2 := RJ4) (ci := 1) (q0 := 0) (c_J5_newCapacity_0f7a4 l hZ (ad := ad) q4) gJ5_ensureCapacityInternal_d00df_J5_newCapacity_0f7a4_u104J4 rfl ⟨by decide +kernel, by decide +kernel, rfl⟩ rfl ⟨Nat.le_of_ble_eq_true rfl, Nat.le_of_ble_eq_true rfl⟩ rfl rfl sg_cutAll rfl (Nat.le_of_ble_eq_true rfl) ⟨Nat.le_of_ble_eq_true rfl, Nat.le_of_ble_eq_true rfl⟩ dJ5_ensureCapacityInternal_d00df_24 rfl rfl ?_
    refine g_aload_n 28 C dJ5_ensureCapacityInternal_d00df_27 rfl rfl rfl ?_
    refine g_get 31 C (own := RJ5) (C1 := RJ4) (T := TJ4) 0 1 (.int (σ 0 1)) kiJ5_ensureCapacityInternal_d00df_J4 kfJ5_ensureCapacityInternal_d00df_22 rfl dJ5_ensureCapacityInternal_d00df_28 rfl rfl rfl (by decide) rfl ?_
    refine g_ishl 32 C dJ5_ensureCapacityInternal_d00df_31 rfl ?_
    obtain ⟨y5, ey5, hF⟩ := sg_letE hF
    refine g_top ey5 ?_
    obtain ⟨h6, hF⟩ := sg_grdE hF
    obtain ⟨h7, hF⟩ := sg_grdE hF
    obtain ⟨h8, hF⟩ := sg_grdE hF
    obtain ⟨h9, hF⟩ := sg_grdE hF
    refine g_XSr 35 C (w2 := fun q => (ww_J4 Y ad σ) ++ [(q, .inl (Y 1, y5.toNatClampNeg, .inl (va_cpy (σ 1) (fun _ => 0) 0 0 (σ 0 0).toNatClampNeg)))]) (As := [.ref (ad 1), .int y5]) (st := [.ref (ad 0)]) (n0 := 2) (c_J7_copyOf_9075b l hZ (ad := sg_e2 1 1 0 ad) (σ := sg_e2 1 1 0 σ) h6 h7 h8 h9) gJ5_ensureCapacityInternal_d00df_J7_copyOf_9075b ⟨by decide +kernel, by decide +kernel, rfl⟩ rfl ⟨Nat.le_of_ble_eq_true rfl, Nat.le_of_ble_eq_true rfl⟩ (sg_cutMidX 1 1 rfl (fun _ => rfl)) rfl (Nat.le_of_ble_eq_true rfl) ⟨Nat.le_of_ble_eq_true rfl, Nat.le_of_ble_eq_true rfl⟩ dJ5_ensureCapacityInternal_d00df_32 rfl rfl (fun a10 _ => ?_)
    obtain ⟨σ11, eσ11, hF⟩ := sg_letE hF
    refine g_put 38 C (own := RJ5) (C1 := RJ4) (T := TJ4) (w2 := [(ad 0, .inr (1, [.ref a10, .int (σ 0 1), .int (σ 0 2), .int (σ 0 3)])), (ad 1, .inl (Y 1, (σ 0 0).toNatClampNeg, .inl (σ 1))), (a10, .inl (Y 1, y5.toNatClampNeg, .inl (va_cpy (σ 1) (fun _ => 0) 0 0 (σ 0 0).toNatClampNeg)))]) 0 0 tyJ4 tyJ4_ok nmJ4 kiJ5_ensureCapacityInternal_d00df_J4 kfJ5_ensureCapacityInternal_d00df_15 rfl rfl (ty := .array .byte) (by decide +kernel) rfl rfl (sg_blt rfl) dJ5_ensureCapacityInternal_d00df_35 rfl rfl rfl (by decide) rfl ?_
    refine g_sub (w2 := (ww_J4 Y (sg_ua ad 1 a10) σ11)) [0, 2] (by subst eσ11; rfl) (by decide) ?_
    have e2 := sg_someE hF
    refine g_widen 1 200 (Nat.le_of_ble_eq_true rfl) (Nat.le_of_ble_eq_true rfl) ?_
    exact g_vretX (P := fun (_ : Nat) => True) (w' := fun q => (ww_J4 Y (sg_ua ad 1 q) σ')) (a10) C hr hQ hsz dJ5_ensureCapacityInternal_d00df_38 trivial (by subst e2; rfl)
def f_J5_ensureCapacityInternal_d00df_0 (x1 : Int32) (σ : sg_S) : Option sg_S := sg_grd (decide (0 ≤ σ 0 0)) (sg_let ((σ 0 0) >>> ((σ 0 1) &&& 31)) (fun y2 => (if 0 < x1 - y2 then none else some σ)))
set_option maxHeartbeats 4000000 in
set_option maxRecDepth 100000 in
theorem c_J5_ensureCapacityInternal_d00df_0 (l : Launch) {D : va_G} {Y : Nat → ClassId} {Z : (Nat → Prop) → State → Heap → Prop} (hZ : sg_Zok Z) {ad : Nat → Nat} {σ : sg_S} {σ' : sg_S} {x1 : Int32} (hF : f_J5_ensureCapacityInternal_d00df_0 x1 σ = some σ') : sg_MV l yJ5_ensureCapacityInternal_d00df wsJ5_ensureCapacityInternal_d00df 0 0 D Y Z [.ref (ad 0), .int x1] (ww_J4 Y ad σ) (ww_J4 Y ad σ') := by
  intro sz
  refine sg_enter (own := RJ5) (maxL := 3) (ret := none) (cc := cJ5_ensureCapacityInternal_d00df) (by decide +kernel) rfl rfl (Nat.le_of_ble_eq_true rfl) hZ ?_
  intro p e s m args below meth c C hr Q hQ hsz
  refine g_lv (lv2 := [(0, .ref (ad 0)), (1, .int x1)]) [0, 1] rfl ?_
  rw [f_J5_ensureCapacityInternal_d00df_0] at hF
  refine g_aload_n 1 C dJ5_ensureCapacityInternal_d00df_0 rfl rfl rfl ?_
  refine g_get 4 C (own := RJ5) (C1 := RJ4) (T := TJ4) 0 0 (.ref (ad 1)) kiJ5_ensureCapacityInternal_d00df_J4 kfJ5_ensureCapacityInternal_d00df_15 rfl dJ5_ensureCapacityInternal_d00df_1 rfl rfl rfl (by decide) rfl ?_
  obtain ⟨h1, hF⟩ := sg_grdE hF
  refine g_alen 5 C (v := σ 0 0) 1 1 dJ5_ensureCapacityInternal_d00df_4 rfl rfl rfl (sg_ofcl h1) ?_
  refine g_aload_n 6 C dJ5_ensureCapacityInternal_d00df_5 rfl rfl rfl ?_
  refine g_get 9 C (own := RJ5) (C1 := RJ4) (T := TJ4) 0 1 (.int (σ 0 1)) kiJ5_ensureCapacityInternal_d00df_J4 kfJ5_ensureCapacityInternal_d00df_22 rfl dJ5_ensureCapacityInternal_d00df_6 rfl rfl rfl (by decide) rfl ?_
  refine g_ishr 10 C dJ5_ensureCapacityInternal_d00df_9 rfl ?_
  obtain ⟨y2, ey2, hF⟩ := sg_letE hF
  refine g_top ey2 ?_
  refine g_istore_n 11 C [(2, .int y2), (0, .ref (ad 0)), (1, .int x1)] dJ5_ensureCapacityInternal_d00df_10 rfl rfl (by decide) rfl ?_
  refine g_iload_n 12 C dJ5_ensureCapacityInternal_d00df_11 rfl rfl rfl ?_
  refine g_iload_n 13 C dJ5_ensureCapacityInternal_d00df_12 rfl rfl rfl ?_
  refine g_isub 14 C dJ5_ensureCapacityInternal_d00df_13 rfl ?_
  refine g_if_le 17 38 C dJ5_ensureCapacityInternal_d00df_14 (by decide) rfl hF (fun hF => ?_) (fun hF => ?_)
  · have e2 := sg_someE hF
    exact g_vret C hr hQ hsz dJ5_ensureCapacityInternal_d00df_38 (by rw [e2])
  · refine g_aload_n 18 C dJ5_ensureCapacityInternal_d00df_17 rfl rfl rfl ?_
    refine g_aload_n 19 C dJ5_ensureCapacityInternal_d00df_18 rfl rfl rfl ?_
    refine g_get 22 C (own := RJ5) (C1 := RJ4) (T := TJ4) 0 0 (.ref (ad 1)) kiJ5_ensureCapacityInternal_d00df_J4 kfJ5_ensureCapacityInternal_d00df_15 rfl dJ5_ensureCapacityInternal_d00df_19 rfl rfl rfl (by decide) rfl ?_
    refine g_aload_n 23 C dJ5_ensureCapacityInternal_d00df_22 rfl rfl rfl ?_
    refine g_iload_n 24 C dJ5_ensureCapacityInternal_d00df_23 rfl rfl rfl ?_
    exact nomatch hF
theorem kiJ5_append_3fe6f_J4 : ∀ w ∈ u_ws RJ4 TJ4 4, w ∈ wsJ5_append_3fe6f := by decide +kernel
theorem kfJ5_append_3fe6f_79 : Cond.fieldLink RJ5 79 "java/lang/AbstractStringBuilder" "count" "I" ∈ wsJ5_append_3fe6f := by decide +kernel
theorem kfJ5_append_3fe6f_15 : Cond.fieldLink RJ5 15 "java/lang/AbstractStringBuilder" "value" "[B" ∈ wsJ5_append_3fe6f := by decide +kernel
def f_J5_append_3fe6f (x1 : Int32) (σ : sg_S) : Option sg_S := sg_bnd (f_J5_ensureCapacityInternal_d00df ((σ 0 3) + 1) σ) (fun τ1 => sg_bnd (f_J5_isLatin1_aae02  τ1) (fun r4 => (if r4 = 0 then sg_bnd (f_J5_isLatin1_aae02  τ1) (fun r6 => (if r6 = 0 then sg_let (sg_up τ1 0 3 ((τ1 0 3) + 1)) (fun σ8 => none) else none)) else sg_bnd (f_J1_canEncode_fc78d x1) (fun r9 => (if r9 = 0 then sg_bnd (f_J5_isLatin1_aae02  τ1) (fun r11 => (if r11 = 0 then sg_let (sg_up τ1 0 3 ((τ1 0 3) + 1)) (fun σ13 => none) else none)) else sg_let (sg_up τ1 0 3 ((τ1 0 3) + 1)) (fun σ14 => sg_grd (sg_in (τ1 0 3) (σ14 0 0).toNatClampNeg) (sg_let (sg_up σ14 1 ((τ1 0 3).toNatClampNeg) (x1.toInt8.toInt32).toInt8.toInt32) (fun σ16 => some σ16))))))))
set_option maxHeartbeats 4000000 in
set_option maxRecDepth 100000 in
theorem c_J5_append_3fe6f (l : Launch) {D : va_G} {Y : Nat → ClassId} {Z : (Nat → Prop) → State → Heap → Prop} (hZ : sg_Zok Z) {jK jV jT : Nat → Nat} (hJ : sg_ZJ Z jK jV jT) {ad : Nat → Nat} {σ : sg_S} {σ' : sg_S} {x1 : Int32} (hF : f_J5_append_3fe6f x1 σ = some σ') : sg_XR l yJ5_append_3fe6f wsJ5_append_3fe6f 4 91 1 200 D Y Z [.ref (ad 0), .int x1] (ww_J4 Y ad σ) (fun _ : Nat => True) (fun _ => ad 0) (fun q => (ww_J4 Y (sg_ua ad 1 q) σ')) := by
  intro sz
  refine sg_enterX (own := RJ5) (maxL := 2) (ret := (some (.object "java/lang/AbstractStringBuilder"))) (cc := cJ5_append_3fe6f) (by decide +kernel) rfl rfl (Nat.le_of_ble_eq_true rfl) hZ ?_
  intro p e s m args below meth c C hr hin Q hQ hsz
  have hJJ := hJ _ _ _ C.2.2.2.2.2.2.2.2.1
  refine g_lv (lv2 := [(0, .ref (ad 0)), (1, .int x1)]) [0, 1] rfl ?_
  rw [f_J5_append_3fe6f] at hF
  refine g_aload_n 1 C dJ5_append_3fe6f_0 rfl rfl rfl ?_
  refine g_aload_n 2 C dJ5_append_3fe6f_1 rfl rfl rfl ?_
  refine g_get 5 C (own := RJ5) (C1 := RJ4) (T := TJ4) 0 3 (.int (σ 0 3)) kiJ5_append_3fe6f_J4 kfJ5_append_3fe6f_79 rfl dJ5_append_3fe6f_2 rfl rfl rfl (by decide) rfl ?_
  refine g_iconst 6 C 1 dJ5_append_3fe6f_5 rfl (by decide) ?_
  refine g_iadd 7 C dJ5_append_3fe6f_6 rfl ?_
  obtain ⟨τ1, q2, hF⟩ := sg_bndE hF
  refine g_XUv 10 C (w2 := fun q => (ww_J4 Y (sg_ua ad 1 q) τ1)) (As := [.int ((σ 0 3) + 1)]) (st := []) (n0 := 1) (C2 := RJ4) (ci := 1) (q0 := 0) (c_J5_ensureCapacityInternal_d00df l hZ (ad := ad) q2) gJ5_append_3fe6f_J5_ensureCapacityInternal_d00df_u100J4 rfl ⟨by decide +kernel, by decide +kernel, rfl⟩ rfl ⟨Nat.le_of_ble_eq_true rfl, Nat.le_of_ble_eq_true rfl⟩ rfl rfl ⟨[], by rw [List.append_nil], fun _ => List.Perm.of_eq (List.nil_append _)⟩ rfl (Nat.le_of_ble_eq_true rfl) ⟨Nat.le_of_ble_eq_true rfl, Nat.le_of_ble_eq_true rfl⟩ dJ5_append_3fe6f_7 rfl rfl (fun a3 _ => ?_)
  refine g_aload_n 11 C dJ5_append_3fe6f_10 rfl rfl rfl ?_
  obtain ⟨r4, q5, hF⟩ := sg_bndE hF
  refine g_callUi 14 C (w2 := (ww_J4 Y (sg_ua ad 1 a3) τ1)) (As := []) (st := []) (n0 := 0) (C2 := RJ4) (ci := 1) (q0 := 0) (c_J5_isLatin1_aae02 l hZ hJ (ad := (sg_ua ad 1 a3)) q5) gJ5_append_3fe6f_J5_isLatin1_aae02_u83J4 rfl ⟨by decide +kernel, by decide +kernel, rfl⟩ rfl ⟨Nat.le_of_ble_eq_true rfl, Nat.le_of_ble_eq_true rfl⟩ rfl rfl sg_cutAll rfl (Nat.le_of_ble_eq_true rfl) ⟨Nat.le_of_ble_eq_true rfl, Nat.le_of_ble_eq_true rfl⟩ dJ5_append_3fe6f_11 rfl rfl ?_
  refine g_if_eq 17 45 C dJ5_append_3fe6f_14 (by decide) rfl hF (fun hF => ?_) (fun hF => ?_)
  · refine g_aload_n 46 C dJ5_append_3fe6f_45 rfl rfl rfl ?_
    obtain ⟨r6, q7, hF⟩ := sg_bndE hF
    refine g_callUi 49 C (w2 := (ww_J4 Y (sg_ua ad 1 a3) τ1)) (As := []) (st := []) (n0 := 0) (C2 := RJ4) (ci := 1) (q0 := 0) (c_J5_isLatin1_aae02 l hZ hJ (ad := (sg_ua ad 1 a3)) q7) gJ5_append_3fe6f_J5_isLatin1_aae02_u83J4 rfl ⟨by decide +kernel, by decide +kernel, rfl⟩ rfl ⟨Nat.le_of_ble_eq_true rfl, Nat.le_of_ble_eq_true rfl⟩ rfl rfl sg_cutAll rfl (Nat.le_of_ble_eq_true rfl) ⟨Nat.le_of_ble_eq_true rfl, Nat.le_of_ble_eq_true rfl⟩ dJ5_append_3fe6f_46 rfl rfl ?_
    refine g_if_eq 52 56 C dJ5_append_3fe6f_49 (by decide) rfl hF (fun hF => ?_) (fun hF => ?_)
    · refine g_aload_n 57 C dJ5_append_3fe6f_56 rfl rfl rfl ?_
      refine g_get 60 C (own := RJ5) (C1 := RJ4) (T := TJ4) 0 0 (.ref ((sg_ua ad 1 a3) 1)) kiJ5_append_3fe6f_J4 kfJ5_append_3fe6f_15 rfl dJ5_append_3fe6f_57 rfl rfl rfl (by decide) rfl ?_
      refine g_aload_n 61 C dJ5_append_3fe6f_60 rfl rfl rfl ?_
      refine g_dup 62 C dJ5_append_3fe6f_61 rfl rfl ?_
      refine g_get 65 C (own := RJ5) (C1 := RJ4) (T := TJ4) 0 3 (.int (τ1 0 3)) kiJ5_append_3fe6f_J4 kfJ5_append_3fe6f_79 rfl dJ5_append_3fe6f_62 rfl rfl rfl (by decide) rfl ?_
      refine g_dup_x1 66 C dJ5_append_3fe6f_65 rfl rfl rfl ?_
      refine g_iconst 67 C 1 dJ5_append_3fe6f_66 rfl (by decide) ?_
      refine g_iadd 68 C dJ5_append_3fe6f_67 rfl ?_
      obtain ⟨σ8, eσ8, hF⟩ := sg_letE hF
      refine g_put 71 C (own := RJ5) (C1 := RJ4) (T := TJ4) (w2 := (ww_J4 Y (sg_ua ad 1 a3) σ8)) 0 3 tyJ4 tyJ4_ok nmJ4 kiJ5_append_3fe6f_J4 kfJ5_append_3fe6f_79 rfl rfl (ty := .int) (by decide) rfl rfl (sg_blt rfl) dJ5_append_3fe6f_68 rfl rfl rfl (by decide) (by rw [eσ8]; rfl) ?_
      refine g_iload_n 72 C dJ5_append_3fe6f_71 rfl rfl rfl ?_
      exact nomatch hF
    · refine g_aload_n 53 C dJ5_append_3fe6f_52 rfl rfl rfl ?_
      exact nomatch hF
  · refine g_iload_n 18 C dJ5_append_3fe6f_17 rfl rfl rfl ?_
    obtain ⟨r9, q10, hF⟩ := sg_bndE hF
    refine g_callSi 21 C (w2 := (ww_J4 Y (sg_ua ad 1 a3) τ1)) (As := [.int x1]) (st := []) (n0 := 1) [] [0, 1] [0, 1] (c_J1_canEncode_fc78d l hZ (ad := ad) (σ := τ1) q10) gJ5_append_3fe6f_J1_canEncode_fc78d ⟨by decide +kernel, by decide +kernel, rfl⟩ rfl ⟨Nat.le_of_ble_eq_true rfl, Nat.le_of_ble_eq_true rfl⟩ ⟨rfl, rfl, rfl, by decide, rfl, rfl⟩ rfl rfl (Nat.le_of_ble_eq_true rfl) ⟨Nat.le_of_ble_eq_true rfl, Nat.le_of_ble_eq_true rfl⟩ dJ5_append_3fe6f_18 rfl rfl ?_
    refine g_if_eq 24 45 C dJ5_append_3fe6f_21 (by decide) rfl hF (fun hF => ?_) (fun hF => ?_)
    · refine g_aload_n 46 C dJ5_append_3fe6f_45 rfl rfl rfl ?_
      obtain ⟨r11, q12, hF⟩ := sg_bndE hF
      refine g_callUi 49 C (w2 := (ww_J4 Y (sg_ua ad 1 a3) τ1)) (As := []) (st := []) (n0 := 0) (C2 := RJ4) (ci := 1) (q0 := 0) (c_J5_isLatin1_aae02 l hZ hJ (ad := (sg_ua ad 1 a3)) q12) gJ5_append_3fe6f_J5_isLatin1_aae02_u83J4 rfl ⟨by decide +kernel, by decide +kernel, rfl⟩ rfl ⟨Nat.le_of_ble_eq_true rfl, Nat.le_of_ble_eq_true rfl⟩ rfl rfl sg_cutAll rfl (Nat.le_of_ble_eq_true rfl) ⟨Nat.le_of_ble_eq_true rfl, Nat.le_of_ble_eq_true rfl⟩ dJ5_append_3fe6f_46 rfl rfl ?_
      refine g_if_eq 52 56 C dJ5_append_3fe6f_49 (by decide) rfl hF (fun hF => ?_) (fun hF => ?_)
      · refine g_aload_n 57 C dJ5_append_3fe6f_56 rfl rfl rfl ?_
        refine g_get 60 C (own := RJ5) (C1 := RJ4) (T := TJ4) 0 0 (.ref ((sg_ua ad 1 a3) 1)) kiJ5_append_3fe6f_J4 kfJ5_append_3fe6f_15 rfl dJ5_append_3fe6f_57 rfl rfl rfl (by decide) rfl ?_
        refine g_aload_n 61 C dJ5_append_3fe6f_60 rfl rfl rfl ?_
        refine g_dup 62 C dJ5_append_3fe6f_61 rfl rfl ?_
        refine g_get 65 C (own := RJ5) (C1 := RJ4) (T := TJ4) 0 3 (.int (τ1 0 3)) kiJ5_append_3fe6f_J4 kfJ5_append_3fe6f_79 rfl dJ5_append_3fe6f_62 rfl rfl rfl (by decide) rfl ?_
        refine g_dup_x1 66 C dJ5_append_3fe6f_65 rfl rfl rfl ?_
        refine g_iconst 67 C 1 dJ5_append_3fe6f_66 rfl (by decide) ?_
        refine g_iadd 68 C dJ5_append_3fe6f_67 rfl ?_
        obtain ⟨σ13, eσ13, hF⟩ := sg_letE hF
        refine g_put 71 C (own := RJ5) (C1 := RJ4) (T := TJ4) (w2 := (ww_J4 Y (sg_ua ad 1 a3) σ13)) 0 3 tyJ4 tyJ4_ok nmJ4 kiJ5_append_3fe6f_J4 kfJ5_append_3fe6f_79 rfl rfl (ty := .int) (by decide) rfl rfl (sg_blt rfl) dJ5_append_3fe6f_68 rfl rfl rfl (by decide) (by rw [eσ13]; rfl) ?_
        refine g_iload_n 72 C dJ5_append_3fe6f_71 rfl rfl rfl ?_
        exact nomatch hF
      · refine g_aload_n 53 C dJ5_append_3fe6f_52 rfl rfl rfl ?_
        exact nomatch hF
    · refine g_aload_n 25 C dJ5_append_3fe6f_24 rfl rfl rfl ?_
      refine g_get 28 C (own := RJ5) (C1 := RJ4) (T := TJ4) 0 0 (.ref ((sg_ua ad 1 a3) 1)) kiJ5_append_3fe6f_J4 kfJ5_append_3fe6f_15 rfl dJ5_append_3fe6f_25 rfl rfl rfl (by decide) rfl ?_
      refine g_aload_n 29 C dJ5_append_3fe6f_28 rfl rfl rfl ?_
      refine g_dup 30 C dJ5_append_3fe6f_29 rfl rfl ?_
      refine g_get 33 C (own := RJ5) (C1 := RJ4) (T := TJ4) 0 3 (.int (τ1 0 3)) kiJ5_append_3fe6f_J4 kfJ5_append_3fe6f_79 rfl dJ5_append_3fe6f_30 rfl rfl rfl (by decide) rfl ?_
      refine g_dup_x1 34 C dJ5_append_3fe6f_33 rfl rfl rfl ?_
      refine g_iconst 35 C 1 dJ5_append_3fe6f_34 rfl (by decide) ?_
      refine g_iadd 36 C dJ5_append_3fe6f_35 rfl ?_
      obtain ⟨σ14, eσ14, hF⟩ := sg_letE hF
      refine g_put 39 C (own := RJ5) (C1 := RJ4) (T := TJ4) (w2 := (ww_J4 Y (sg_ua ad 1 a3) σ14)) 0 3 tyJ4 tyJ4_ok nmJ4 kiJ5_append_3fe6f_J4 kfJ5_append_3fe6f_79 rfl rfl (ty := .int) (by decide) rfl rfl (sg_blt rfl) dJ5_append_3fe6f_36 rfl rfl rfl (by decide) (by rw [eσ14]; rfl) ?_
      refine g_iload_n 40 C dJ5_append_3fe6f_39 rfl rfl rfl ?_
      refine g_i2b 41 C dJ5_append_3fe6f_40 rfl ?_
      obtain ⟨h15, hF⟩ := sg_grdE hF
      obtain ⟨σ16, eσ16, hF⟩ := sg_letE hF
      refine g_bast 42 C (w2 := (ww_J4 Y (sg_ua ad 1 a3) σ16)) 1 dJ5_append_3fe6f_41 rfl rfl h15 (by rw [eσ16]; rfl) ?_
      refine g_goto 75 C dJ5_append_3fe6f_42 (by decide) ?_
      refine g_aload_n 76 C dJ5_append_3fe6f_75 rfl rfl rfl ?_
      have e2 := sg_someE hF
      refine g_widen 1 200 (Nat.le_of_ble_eq_true rfl) (Nat.le_of_ble_eq_true rfl) ?_
      exact g_aretX (P := fun (_ : Nat) => True) (ra := fun _ => ad 0) (w' := fun q => (ww_J4 Y (sg_ua ad 1 q) σ')) (a3) C hr (Or.inl ⟨_, rfl⟩) hQ hsz dJ5_append_3fe6f_76 trivial rfl (by subst e2; rfl)
theorem kiJ5_append_c97b9_J4 : ∀ w ∈ u_ws RJ4 TJ4 4, w ∈ wsJ5_append_c97b9 := by decide +kernel
theorem kfJ5_append_c97b9_79 : Cond.fieldLink RJ5 79 "java/lang/AbstractStringBuilder" "count" "I" ∈ wsJ5_append_c97b9 := by decide +kernel
theorem kfJ5_append_c97b9_15 : Cond.fieldLink RJ5 15 "java/lang/AbstractStringBuilder" "value" "[B" ∈ wsJ5_append_c97b9 := by decide +kernel
def f_J5_append_c97b9 (x1 : Int32) (σ : sg_S) : Option sg_S := sg_let (σ 0 3) (fun y1 => sg_bnd (f_J6_stringSize_0f7a4 x1) (fun r2 => sg_let (y1 + r2) (fun y4 => sg_bnd (f_J5_ensureCapacityInternal_d00df y4 σ) (fun τ5 => sg_bnd (f_J5_isLatin1_aae02  τ5) (fun r8 => (if r8 = 0 then none else sg_bnd2 (f_J6_getChars_ba4f3 x1 y4 (sg_e2 1 1 0 τ5)) (fun r12 τ10 => sg_let (sg_ur τ5 1 (τ10 0)) (fun σ13 => sg_let (sg_up σ13 0 3 y4) (fun σ14 => some σ14)))))))))
set_option maxHeartbeats 4000000 in
set_option maxRecDepth 100000 in
theorem c_J5_append_c97b9 (l : Launch) {D : va_G} {Y : Nat → ClassId} {Z : (Nat → Prop) → State → Heap → Prop} (hZ : sg_Zok Z) {jK jV jT : Nat → Nat} (hJ : sg_ZJ Z jK jV jT) {ad : Nat → Nat} {σ : sg_S} {σ' : sg_S} {x1 : Int32} (hF : f_J5_append_c97b9 x1 σ = some σ') : sg_XR l yJ5_append_c97b9 wsJ5_append_c97b9 4 91 1 200 D Y Z [.ref (ad 0), .int x1] (ww_J4 Y ad σ) (fun _ : Nat => True) (fun _ => ad 0) (fun q => (ww_J4 Y (sg_ua ad 1 q) σ')) := by
  intro sz
  refine sg_enterX (own := RJ5) (maxL := 4) (ret := (some (.object "java/lang/AbstractStringBuilder"))) (cc := cJ5_append_c97b9) (by decide +kernel) rfl rfl (Nat.le_of_ble_eq_true rfl) hZ ?_
  intro p e s m args below meth c C hr hin Q hQ hsz
  have hJJ := hJ _ _ _ C.2.2.2.2.2.2.2.2.1
  refine g_lv (lv2 := [(0, .ref (ad 0)), (1, .int x1)]) [0, 1] rfl ?_
  rw [f_J5_append_c97b9] at hF
  refine g_aload_n 1 C dJ5_append_c97b9_0 rfl rfl rfl ?_
  refine g_get 4 C (own := RJ5) (C1 := RJ4) (T := TJ4) 0 3 (.int (σ 0 3)) kiJ5_append_c97b9_J4 kfJ5_append_c97b9_79 rfl dJ5_append_c97b9_1 rfl rfl rfl (by decide) rfl ?_
  obtain ⟨y1, ey1, hF⟩ := sg_letE hF
  refine g_top ey1 ?_
  refine g_istore_n 5 C [(2, .int y1), (0, .ref (ad 0)), (1, .int x1)] dJ5_append_c97b9_4 rfl rfl (by decide) rfl ?_
  refine g_iload_n 6 C dJ5_append_c97b9_5 rfl rfl rfl ?_
  refine g_iload_n 7 C dJ5_append_c97b9_6 rfl rfl rfl ?_
  obtain ⟨r2, q3, hF⟩ := sg_bndE hF
  refine g_callSi 10 C (w2 := (ww_J4 Y ad σ)) (As := [.int x1]) (st := [.int y1]) (n0 := 1) [] [0, 1] [0, 1] (c_J6_stringSize_0f7a4 l hZ (ad := ad) (σ := σ) q3) gJ5_append_c97b9_J6_stringSize_0f7a4 ⟨by decide +kernel, by decide +kernel, rfl⟩ rfl ⟨Nat.le_of_ble_eq_true rfl, Nat.le_of_ble_eq_true rfl⟩ ⟨rfl, rfl, rfl, by decide, rfl, rfl⟩ rfl rfl (Nat.le_of_ble_eq_true rfl) ⟨Nat.le_of_ble_eq_true rfl, Nat.le_of_ble_eq_true rfl⟩ dJ5_append_c97b9_7 rfl rfl ?_
  refine g_iadd 11 C dJ5_append_c97b9_10 rfl ?_
  obtain ⟨y4, ey4, hF⟩ := sg_letE hF
  refine g_top ey4 ?_
  refine g_istore_n 12 C [(3, .int y4), (2, .int y1), (0, .ref (ad 0)), (1, .int x1)] dJ5_append_c97b9_11 rfl rfl (by decide) rfl ?_
  refine g_aload_n 13 C dJ5_append_c97b9_12 rfl rfl rfl ?_
  refine g_iload_n 14 C dJ5_append_c97b9_13 rfl rfl rfl ?_
  obtain ⟨τ5, q6, hF⟩ := sg_bndE hF
  refine g_XUv 17 C (w2 := fun q => (ww_J4 Y (sg_ua ad 1 q) τ5)) (As := [.int y4]) (st := []) (n0 := 1) (C2 := RJ4) (ci := 1) (q0 := 0) (c_J5_ensureCapacityInternal_d00df l hZ (ad := ad) q6) gJ5_append_c97b9_J5_ensureCapacityInternal_d00df_u100J4 rfl ⟨by decide +kernel, by decide +kernel, rfl⟩ rfl ⟨Nat.le_of_ble_eq_true rfl, Nat.le_of_ble_eq_true rfl⟩ rfl rfl ⟨[], by rw [List.append_nil], fun _ => List.Perm.of_eq (List.nil_append _)⟩ rfl (Nat.le_of_ble_eq_true rfl) ⟨Nat.le_of_ble_eq_true rfl, Nat.le_of_ble_eq_true rfl⟩ dJ5_append_c97b9_14 rfl rfl (fun a7 _ => ?_)
  refine g_aload_n 18 C dJ5_append_c97b9_17 rfl rfl rfl ?_
  obtain ⟨r8, q9, hF⟩ := sg_bndE hF
  refine g_callUi 21 C (w2 := (ww_J4 Y (sg_ua ad 1 a7) τ5)) (As := []) (st := []) (n0 := 0) (C2 := RJ4) (ci := 1) (q0 := 0) (c_J5_isLatin1_aae02 l hZ hJ (ad := (sg_ua ad 1 a7)) q9) gJ5_append_c97b9_J5_isLatin1_aae02_u83J4 rfl ⟨by decide +kernel, by decide +kernel, rfl⟩ rfl ⟨Nat.le_of_ble_eq_true rfl, Nat.le_of_ble_eq_true rfl⟩ rfl rfl sg_cutAll rfl (Nat.le_of_ble_eq_true rfl) ⟨Nat.le_of_ble_eq_true rfl, Nat.le_of_ble_eq_true rfl⟩ dJ5_append_c97b9_18 rfl rfl ?_
  refine g_if_eq 24 37 C dJ5_append_c97b9_21 (by decide) rfl hF (fun hF => ?_) (fun hF => ?_)
  · refine g_iload_n 38 C dJ5_append_c97b9_37 rfl rfl rfl ?_
    refine g_iload_n 39 C dJ5_append_c97b9_38 rfl rfl rfl ?_
    refine g_iload_n 40 C dJ5_append_c97b9_39 rfl rfl rfl ?_
    refine g_aload_n 41 C dJ5_append_c97b9_40 rfl rfl rfl ?_
    refine g_get 44 C (own := RJ5) (C1 := RJ4) (T := TJ4) 0 0 (.ref ((sg_ua ad 1 a7) 1)) kiJ5_append_c97b9_J4 kfJ5_append_c97b9_15 rfl dJ5_append_c97b9_41 rfl rfl rfl (by decide) rfl ?_
    exact nomatch hF
  · refine g_iload_n 25 C dJ5_append_c97b9_24 rfl rfl rfl ?_
    refine g_iload_n 26 C dJ5_append_c97b9_25 rfl rfl rfl ?_
    refine g_aload_n 27 C dJ5_append_c97b9_26 rfl rfl rfl ?_
    refine g_get 30 C (own := RJ5) (C1 := RJ4) (T := TJ4) 0 0 (.ref ((sg_ua ad 1 a7) 1)) kiJ5_append_c97b9_J4 kfJ5_append_c97b9_15 rfl dJ5_append_c97b9_27 rfl rfl rfl (by decide) rfl ?_
    obtain ⟨r12, τ10, q11, hF⟩ := sg_bnd2E hF
    obtain ⟨σ13, eσ13, hF⟩ := sg_letE hF
    refine g_callSi 33 C (w2 := (ww_J4 Y (sg_ua ad 1 a7) σ13)) (As := [.int x1, .int y4, .ref ((sg_ua ad 1 a7) 1)]) (st := []) (n0 := 3) [1] [0] [0, 1] (c_J6_getChars_ba4f3 l hZ hJ (ad := (sg_e2 1 1 0 (sg_ua ad 1 a7))) q11) gJ5_append_c97b9_J6_getChars_ba4f3 ⟨by decide +kernel, by decide +kernel, rfl⟩ rfl ⟨Nat.le_of_ble_eq_true rfl, Nat.le_of_ble_eq_true rfl⟩ (by subst eσ13; have fr2 : ww_B Y (sg_e2 1 1 0 (sg_ua ad 1 a7)) τ10 = [((sg_e2 1 1 0 (sg_ua ad 1 a7)) 0, .inl (Y 1, (τ5 0 0).toNatClampNeg, .inl (τ10 0)))] := (by unfold ww_B; rw [show τ10 1 0 = τ5 0 0 from congrFun (fr_getChars q11) 0]); refine ⟨?_, ?_, ?_, ?_, ?_, ?_⟩ <;> first | rfl | decide | (rw [fr2]; rfl)) rfl rfl (Nat.le_of_ble_eq_true rfl) ⟨Nat.le_of_ble_eq_true rfl, Nat.le_of_ble_eq_true rfl⟩ dJ5_append_c97b9_30 rfl rfl ?_
    refine g_pop 34 C dJ5_append_c97b9_33 rfl rfl ?_
    refine g_goto 48 C dJ5_append_c97b9_34 (by decide) ?_
    refine g_aload_n 49 C dJ5_append_c97b9_48 rfl rfl rfl ?_
    refine g_iload_n 50 C dJ5_append_c97b9_49 rfl rfl rfl ?_
    obtain ⟨σ14, eσ14, hF⟩ := sg_letE hF
    refine g_put 53 C (own := RJ5) (C1 := RJ4) (T := TJ4) (w2 := (ww_J4 Y (sg_ua ad 1 a7) σ14)) 0 3 tyJ4 tyJ4_ok nmJ4 kiJ5_append_c97b9_J4 kfJ5_append_c97b9_79 rfl rfl (ty := .int) (by decide) rfl rfl (sg_blt rfl) dJ5_append_c97b9_50 rfl rfl rfl (by decide) (by rw [eσ14]; rfl) ?_
    refine g_aload_n 54 C dJ5_append_c97b9_53 rfl rfl rfl ?_
    have e2 := sg_someE hF
    refine g_widen 1 200 (Nat.le_of_ble_eq_true rfl) (Nat.le_of_ble_eq_true rfl) ?_
    exact g_aretX (P := fun (_ : Nat) => True) (ra := fun _ => ad 0) (w' := fun q => (ww_J4 Y (sg_ua ad 1 q) σ')) (a7) C hr (Or.inl ⟨_, rfl⟩) hQ hsz dJ5_append_c97b9_54 trivial rfl (by subst e2; rfl)
def f_J4_append_cf468 (x1 : Int32) (σ : sg_S) : Option sg_S := sg_bnd (f_J5_append_3fe6f x1 σ) (fun τ1 => some (τ1))
set_option maxHeartbeats 4000000 in
set_option maxRecDepth 100000 in
theorem c_J4_append_cf468 (l : Launch) {D : va_G} {Y : Nat → ClassId} {Z : (Nat → Prop) → State → Heap → Prop} (hZ : sg_Zok Z) {jK jV jT : Nat → Nat} (hJ : sg_ZJ Z jK jV jT) {ad : Nat → Nat} {σ : sg_S} {σ' : sg_S} {x1 : Int32} (hF : f_J4_append_cf468 x1 σ = some σ') : sg_XR l yJ4_append_cf468 wsJ4_append_cf468 5 112 1 200 D Y Z [.ref (ad 0), .int x1] (ww_J4 Y ad σ) (fun _ : Nat => True) (fun _ => ad 0) (fun q => (ww_J4 Y (sg_ua ad 1 q) σ')) := by
  intro sz
  refine sg_enterX (own := RJ4) (maxL := 2) (ret := (some (.object "java/lang/StringBuilder"))) (cc := cJ4_append_cf468) (by decide +kernel) rfl rfl (Nat.le_of_ble_eq_true rfl) hZ ?_
  intro p e s m args below meth c C hr hin Q hQ hsz
  have hJJ := hJ _ _ _ C.2.2.2.2.2.2.2.2.1
  refine g_lv (lv2 := [(0, .ref (ad 0)), (1, .int x1)]) [0, 1] rfl ?_
  rw [f_J4_append_cf468] at hF
  refine g_aload_n 1 C dJ4_append_cf468_0 rfl rfl rfl ?_
  refine g_iload_n 2 C dJ4_append_cf468_1 rfl rfl rfl ?_
  obtain ⟨τ1, q2, hF⟩ := sg_bndE hF
  refine g_XSUr 5 C (w2 := fun q => (ww_J4 Y (sg_ua ad 1 q) τ1)) (As := [.int x1]) (st := []) (n0 := 1) (C2 := RJ4) (ci := 1) (q0 := 0) (c_J5_append_3fe6f l hZ hJ (ad := ad) q2) gJ4_append_cf468_J5_append_3fe6f_s50 ⟨by decide +kernel, rfl⟩ rfl ⟨Nat.le_of_ble_eq_true rfl, Nat.le_of_ble_eq_true rfl⟩ rfl rfl ⟨[], by rw [List.append_nil], fun _ => List.Perm.of_eq (List.nil_append _)⟩ rfl (Nat.le_of_ble_eq_true rfl) ⟨Nat.le_of_ble_eq_true rfl, Nat.le_of_ble_eq_true rfl⟩ dJ4_append_cf468_2 rfl rfl (fun a3 _ => ?_)
  refine g_pop 6 C dJ4_append_cf468_5 rfl rfl ?_
  refine g_aload_n 7 C dJ4_append_cf468_6 rfl rfl rfl ?_
  have e2 := sg_someE hF
  refine g_widen 1 200 (Nat.le_of_ble_eq_true rfl) (Nat.le_of_ble_eq_true rfl) ?_
  exact g_aretX (P := fun (_ : Nat) => True) (ra := fun _ => ad 0) (w' := fun q => (ww_J4 Y (sg_ua ad 1 q) σ')) (a3) C hr (Or.inl ⟨_, rfl⟩) hQ hsz dJ4_append_cf468_7 trivial rfl (by subst e2; rfl)
def f_J4_append_bf812 (x1 : Int32) (σ : sg_S) : Option sg_S := sg_bnd (f_J5_append_c97b9 x1 σ) (fun τ1 => some (τ1))
set_option maxHeartbeats 4000000 in
set_option maxRecDepth 100000 in
theorem c_J4_append_bf812 (l : Launch) {D : va_G} {Y : Nat → ClassId} {Z : (Nat → Prop) → State → Heap → Prop} (hZ : sg_Zok Z) {jK jV jT : Nat → Nat} (hJ : sg_ZJ Z jK jV jT) {ad : Nat → Nat} {σ : sg_S} {σ' : sg_S} {x1 : Int32} (hF : f_J4_append_bf812 x1 σ = some σ') : sg_XR l yJ4_append_bf812 wsJ4_append_bf812 5 114 1 200 D Y Z [.ref (ad 0), .int x1] (ww_J4 Y ad σ) (fun _ : Nat => True) (fun _ => ad 0) (fun q => (ww_J4 Y (sg_ua ad 1 q) σ')) := by
  intro sz
  refine sg_enterX (own := RJ4) (maxL := 2) (ret := (some (.object "java/lang/StringBuilder"))) (cc := cJ4_append_bf812) (by decide +kernel) rfl rfl (Nat.le_of_ble_eq_true rfl) hZ ?_
  intro p e s m args below meth c C hr hin Q hQ hsz
  have hJJ := hJ _ _ _ C.2.2.2.2.2.2.2.2.1
  refine g_lv (lv2 := [(0, .ref (ad 0)), (1, .int x1)]) [0, 1] rfl ?_
  rw [f_J4_append_bf812] at hF
  refine g_aload_n 1 C dJ4_append_bf812_0 rfl rfl rfl ?_
  refine g_iload_n 2 C dJ4_append_bf812_1 rfl rfl rfl ?_
  obtain ⟨τ1, q2, hF⟩ := sg_bndE hF
  refine g_XSUr 5 C (w2 := fun q => (ww_J4 Y (sg_ua ad 1 q) τ1)) (As := [.int x1]) (st := []) (n0 := 1) (C2 := RJ4) (ci := 1) (q0 := 0) (c_J5_append_c97b9 l hZ hJ (ad := ad) q2) gJ4_append_bf812_J5_append_c97b9_s53 ⟨by decide +kernel, rfl⟩ rfl ⟨Nat.le_of_ble_eq_true rfl, Nat.le_of_ble_eq_true rfl⟩ rfl rfl ⟨[], by rw [List.append_nil], fun _ => List.Perm.of_eq (List.nil_append _)⟩ rfl (Nat.le_of_ble_eq_true rfl) ⟨Nat.le_of_ble_eq_true rfl, Nat.le_of_ble_eq_true rfl⟩ dJ4_append_bf812_2 rfl rfl (fun a3 _ => ?_)
  refine g_pop 6 C dJ4_append_bf812_5 rfl rfl ?_
  refine g_aload_n 7 C dJ4_append_bf812_6 rfl rfl rfl ?_
  have e2 := sg_someE hF
  refine g_widen 1 200 (Nat.le_of_ble_eq_true rfl) (Nat.le_of_ble_eq_true rfl) ?_
  exact g_aretX (P := fun (_ : Nat) => True) (ra := fun _ => ad 0) (w' := fun q => (ww_J4 Y (sg_ua ad 1 q) σ')) (a3) C hr (Or.inl ⟨_, rfl⟩) hQ hsz dJ4_append_bf812_7 trivial rfl (by subst e2; rfl)
theorem kiJ5_setLength_d00df_J4 : ∀ w ∈ u_ws RJ4 TJ4 4, w ∈ wsJ5_setLength_d00df := by decide +kernel
theorem kfJ5_setLength_d00df_79 : Cond.fieldLink RJ5 79 "java/lang/AbstractStringBuilder" "count" "I" ∈ wsJ5_setLength_d00df := by decide +kernel
theorem kfJ5_setLength_d00df_73 : Cond.fieldLink RJ5 73 "java/lang/AbstractStringBuilder" "maybeLatin1" "Z" ∈ wsJ5_setLength_d00df := by decide +kernel
theorem kfJ5_setLength_d00df_15 : Cond.fieldLink RJ5 15 "java/lang/AbstractStringBuilder" "value" "[B" ∈ wsJ5_setLength_d00df := by decide +kernel
def f_J5_setLength_d00df (x1 : Int32) (σ : sg_S) : Option sg_S := (if x1 < 0 then none else sg_bnd (f_J5_ensureCapacityInternal_d00df_0 x1 σ) (fun τ1 => (if τ1 0 3 < x1 then sg_bnd (f_J5_isLatin1_aae02  τ1) (fun r6 => (if r6 = 0 then none else none)) else (if x1 < τ1 0 3 then sg_let (sg_up τ1 0 2 1) (fun σ4 => sg_let (sg_up σ4 0 3 x1) (fun σ5 => some σ5)) else sg_let (sg_up τ1 0 3 x1) (fun σ3 => some σ3)))))
set_option maxHeartbeats 4000000 in
set_option maxRecDepth 100000 in
theorem c_J5_setLength_d00df (l : Launch) {D : va_G} {Y : Nat → ClassId} {Z : (Nat → Prop) → State → Heap → Prop} (hZ : sg_Zok Z) {jK jV jT : Nat → Nat} (hJ : sg_ZJ Z jK jV jT) {ad : Nat → Nat} {σ : sg_S} {σ' : sg_S} {x1 : Int32} (hF : f_J5_setLength_d00df x1 σ = some σ') : sg_MV l yJ5_setLength_d00df wsJ5_setLength_d00df 1 22 D Y Z [.ref (ad 0), .int x1] (ww_J4 Y ad σ) (ww_J4 Y ad σ') := by
  intro sz
  refine sg_enter (own := RJ5) (maxL := 2) (ret := none) (cc := cJ5_setLength_d00df) (by decide +kernel) rfl rfl (Nat.le_of_ble_eq_true rfl) hZ ?_
  intro p e s m args below meth c C hr Q hQ hsz
  have hJJ := hJ _ _ _ C.2.2.2.2.2.2.2.2.1
  refine g_lv (lv2 := [(0, .ref (ad 0)), (1, .int x1)]) [0, 1] rfl ?_
  rw [f_J5_setLength_d00df] at hF
  refine g_iload_n 1 C dJ5_setLength_d00df_0 rfl rfl rfl ?_
  refine g_if_ge 4 13 C dJ5_setLength_d00df_1 (by decide) rfl hF (fun hF => ?_) (fun hF => ?_)
  · refine g_aload_n 14 C dJ5_setLength_d00df_13 rfl rfl rfl ?_
    refine g_iload_n 15 C dJ5_setLength_d00df_14 rfl rfl rfl ?_
    obtain ⟨τ1, q2, hF⟩ := sg_bndE hF
    refine g_callUv 18 C (w2 := (ww_J4 Y ad τ1)) (As := [.int x1]) (st := []) (n0 := 1) (C2 := RJ4) (ci := 1) (q0 := 0) (c_J5_ensureCapacityInternal_d00df_0 l hZ (ad := ad) q2) gJ5_setLength_d00df_J5_ensureCapacityInternal_d00df_u100J4 rfl ⟨by decide +kernel, by decide +kernel, rfl⟩ rfl ⟨Nat.le_of_ble_eq_true rfl, Nat.le_of_ble_eq_true rfl⟩ rfl rfl sg_cutAll rfl (Nat.le_of_ble_eq_true rfl) ⟨Nat.le_refl _, Nat.le_refl _⟩ dJ5_setLength_d00df_15 rfl rfl ?_
    refine g_aload_n 19 C dJ5_setLength_d00df_18 rfl rfl rfl ?_
    refine g_get 22 C (own := RJ5) (C1 := RJ4) (T := TJ4) 0 3 (.int (τ1 0 3)) kiJ5_setLength_d00df_J4 kfJ5_setLength_d00df_79 rfl dJ5_setLength_d00df_19 rfl rfl rfl (by decide) rfl ?_
    refine g_iload_n 23 C dJ5_setLength_d00df_22 rfl rfl rfl ?_
    refine g_icmp_ge 26 63 C dJ5_setLength_d00df_23 (by decide) rfl hF (fun hF => ?_) (fun hF => ?_)
    · refine g_aload_n 64 C dJ5_setLength_d00df_63 rfl rfl rfl ?_
      refine g_get 67 C (own := RJ5) (C1 := RJ4) (T := TJ4) 0 3 (.int (τ1 0 3)) kiJ5_setLength_d00df_J4 kfJ5_setLength_d00df_79 rfl dJ5_setLength_d00df_64 rfl rfl rfl (by decide) rfl ?_
      refine g_iload_n 68 C dJ5_setLength_d00df_67 rfl rfl rfl ?_
      refine g_icmp_le 71 76 C dJ5_setLength_d00df_68 (by decide) rfl hF (fun hF => ?_) (fun hF => ?_)
      · refine g_aload_n 77 C dJ5_setLength_d00df_76 rfl rfl rfl ?_
        refine g_iload_n 78 C dJ5_setLength_d00df_77 rfl rfl rfl ?_
        obtain ⟨σ3, eσ3, hF⟩ := sg_letE hF
        refine g_put 81 C (own := RJ5) (C1 := RJ4) (T := TJ4) (w2 := (ww_J4 Y ad σ3)) 0 3 tyJ4 tyJ4_ok nmJ4 kiJ5_setLength_d00df_J4 kfJ5_setLength_d00df_79 rfl rfl (ty := .int) (by decide) rfl rfl (sg_blt rfl) dJ5_setLength_d00df_78 rfl rfl rfl (by decide) (by rw [eσ3]; rfl) ?_
        have e2 := sg_someE hF
        exact g_vret C hr hQ hsz dJ5_setLength_d00df_81 (by rw [e2])
      · refine g_aload_n 72 C dJ5_setLength_d00df_71 rfl rfl rfl ?_
        refine g_iconst 73 C 1 dJ5_setLength_d00df_72 rfl (by decide) ?_
        obtain ⟨σ4, eσ4, hF⟩ := sg_letE hF
        refine g_put 76 C (own := RJ5) (C1 := RJ4) (T := TJ4) (w2 := (ww_J4 Y ad σ4)) 0 2 tyJ4 tyJ4_ok nmJ4 kiJ5_setLength_d00df_J4 kfJ5_setLength_d00df_73 rfl rfl (ty := .boolean) (by decide) rfl rfl (sg_blt rfl) dJ5_setLength_d00df_73 rfl rfl rfl (by decide) (by rw [eσ4]; rfl) ?_
        refine g_aload_n 77 C dJ5_setLength_d00df_76 rfl rfl rfl ?_
        refine g_iload_n 78 C dJ5_setLength_d00df_77 rfl rfl rfl ?_
        obtain ⟨σ5, eσ5, hF⟩ := sg_letE hF
        refine g_put 81 C (own := RJ5) (C1 := RJ4) (T := TJ4) (w2 := (ww_J4 Y ad σ5)) 0 3 tyJ4 tyJ4_ok nmJ4 kiJ5_setLength_d00df_J4 kfJ5_setLength_d00df_79 rfl rfl (ty := .int) (by decide) rfl rfl (sg_blt rfl) dJ5_setLength_d00df_78 rfl rfl rfl (by decide) (by rw [eσ5]; rfl) ?_
        have e2 := sg_someE hF
        exact g_vret C hr hQ hsz dJ5_setLength_d00df_81 (by rw [e2])
    · refine g_aload_n 27 C dJ5_setLength_d00df_26 rfl rfl rfl ?_
      obtain ⟨r6, q7, hF⟩ := sg_bndE hF
      refine g_callUi 30 C (w2 := (ww_J4 Y ad τ1)) (As := []) (st := []) (n0 := 0) (C2 := RJ4) (ci := 1) (q0 := 0) (c_J5_isLatin1_aae02 l hZ hJ (ad := ad) q7) gJ5_setLength_d00df_J5_isLatin1_aae02_u83J4 rfl ⟨by decide +kernel, by decide +kernel, rfl⟩ rfl ⟨Nat.le_of_ble_eq_true rfl, Nat.le_of_ble_eq_true rfl⟩ rfl rfl sg_cutAll rfl (Nat.le_of_ble_eq_true rfl) ⟨Nat.le_refl _, Nat.le_refl _⟩ dJ5_setLength_d00df_27 rfl rfl ?_
      refine g_if_eq 33 48 C dJ5_setLength_d00df_30 (by decide) rfl hF (fun hF => ?_) (fun hF => ?_)
      · refine g_aload_n 49 C dJ5_setLength_d00df_48 rfl rfl rfl ?_
        refine g_get 52 C (own := RJ5) (C1 := RJ4) (T := TJ4) 0 0 (.ref (ad 1)) kiJ5_setLength_d00df_J4 kfJ5_setLength_d00df_15 rfl dJ5_setLength_d00df_49 rfl rfl rfl (by decide) rfl ?_
        refine g_aload_n 53 C dJ5_setLength_d00df_52 rfl rfl rfl ?_
        refine g_get 56 C (own := RJ5) (C1 := RJ4) (T := TJ4) 0 3 (.int (τ1 0 3)) kiJ5_setLength_d00df_J4 kfJ5_setLength_d00df_79 rfl dJ5_setLength_d00df_53 rfl rfl rfl (by decide) rfl ?_
        refine g_iload_n 57 C dJ5_setLength_d00df_56 rfl rfl rfl ?_
        exact nomatch hF
      · refine g_aload_n 34 C dJ5_setLength_d00df_33 rfl rfl rfl ?_
        refine g_get 37 C (own := RJ5) (C1 := RJ4) (T := TJ4) 0 0 (.ref (ad 1)) kiJ5_setLength_d00df_J4 kfJ5_setLength_d00df_15 rfl dJ5_setLength_d00df_34 rfl rfl rfl (by decide) rfl ?_
        refine g_aload_n 38 C dJ5_setLength_d00df_37 rfl rfl rfl ?_
        refine g_get 41 C (own := RJ5) (C1 := RJ4) (T := TJ4) 0 3 (.int (τ1 0 3)) kiJ5_setLength_d00df_J4 kfJ5_setLength_d00df_79 rfl dJ5_setLength_d00df_38 rfl rfl rfl (by decide) rfl ?_
        refine g_iload_n 42 C dJ5_setLength_d00df_41 rfl rfl rfl ?_
        exact nomatch hF
  · exact nomatch hF
def f_J4_setLength_d00df (x1 : Int32) (σ : sg_S) : Option sg_S := sg_bnd (f_J5_setLength_d00df x1 σ) (fun τ1 => some (τ1))
set_option maxHeartbeats 4000000 in
set_option maxRecDepth 100000 in
theorem c_J4_setLength_d00df (l : Launch) {D : va_G} {Y : Nat → ClassId} {Z : (Nat → Prop) → State → Heap → Prop} (hZ : sg_Zok Z) {jK jV jT : Nat → Nat} (hJ : sg_ZJ Z jK jV jT) {ad : Nat → Nat} {σ : sg_S} {σ' : sg_S} {x1 : Int32} (hF : f_J4_setLength_d00df x1 σ = some σ') : sg_MV l yJ4_setLength_d00df wsJ4_setLength_d00df 2 43 D Y Z [.ref (ad 0), .int x1] (ww_J4 Y ad σ) (ww_J4 Y ad σ') := by
  intro sz
  refine sg_enter (own := RJ4) (maxL := 2) (ret := none) (cc := cJ4_setLength_d00df) (by decide +kernel) rfl rfl (Nat.le_of_ble_eq_true rfl) hZ ?_
  intro p e s m args below meth c C hr Q hQ hsz
  have hJJ := hJ _ _ _ C.2.2.2.2.2.2.2.2.1
  refine g_lv (lv2 := [(0, .ref (ad 0)), (1, .int x1)]) [0, 1] rfl ?_
  rw [f_J4_setLength_d00df] at hF
  refine g_aload_n 1 C dJ4_setLength_d00df_0 rfl rfl rfl ?_
  refine g_iload_n 2 C dJ4_setLength_d00df_1 rfl rfl rfl ?_
  obtain ⟨τ1, q2, hF⟩ := sg_bndE hF
  refine g_callSUv 5 C (w2 := (ww_J4 Y ad τ1)) (As := [.int x1]) (st := []) (n0 := 1) (C2 := RJ4) (ci := 1) (q0 := 0) (c_J5_setLength_d00df l hZ hJ (ad := ad) q2) gJ4_setLength_d00df_J5_setLength_d00df_s333 ⟨by decide +kernel, rfl⟩ rfl ⟨Nat.le_of_ble_eq_true rfl, Nat.le_of_ble_eq_true rfl⟩ rfl rfl sg_cutAll rfl (Nat.le_of_ble_eq_true rfl) ⟨Nat.le_refl _, Nat.le_refl _⟩ dJ4_setLength_d00df_2 rfl rfl ?_
  have e2 := sg_someE hF
  exact g_vret C hr hQ hsz dJ4_setLength_d00df_5 (by rw [e2])
