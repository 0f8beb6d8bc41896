/-! STRINGS: out of a builder, and alike -/
theorem ksJ7_copyOfRangeByte_39247_ab : Cond.arrayClass .byte ∈ wsJ7_copyOfRangeByte_39247 := by decide +kernel
theorem ksJ7_copyOfRangeByte_39247_mm : Cond.methodLink RJ7 304 Lib.Math.min.name ∈ wsJ7_copyOfRangeByte_39247 := by decide +kernel
theorem ksJ7_copyOfRangeByte_39247_ms : Cond.static Lib.Math.min.name ∈ wsJ7_copyOfRangeByte_39247 := by decide +kernel
theorem ksJ7_copyOfRangeByte_39247_mi : Cond.initialized "java/lang/Math" ∈ wsJ7_copyOfRangeByte_39247 := by decide +kernel
theorem ksJ7_copyOfRangeByte_39247_mc : Cond.code Lib.Math.min.name Lib.Math.min.code 2 (some .int) ∈ wsJ7_copyOfRangeByte_39247 := by decide +kernel
theorem ksJ7_copyOfRangeByte_39247_ml : Cond.methodLink RJ7 150 arraycopyName ∈ wsJ7_copyOfRangeByte_39247 := by decide +kernel
theorem ksJ7_copyOfRangeByte_39247_nat : Cond.native arraycopyName ∈ wsJ7_copyOfRangeByte_39247 := by decide +kernel
theorem ksJ7_copyOfRangeByte_39247_sta : Cond.static arraycopyName ∈ wsJ7_copyOfRangeByte_39247 := by decide +kernel
theorem ksJ7_copyOfRangeByte_39247_ini : Cond.initialized "java/lang/System" ∈ wsJ7_copyOfRangeByte_39247 := by decide +kernel
theorem ksJ7_copyOfRange_39247_k1 : Cond.methodLink RJ7 310 ⟨"[B", "clone", "()Ljava/lang/Object;"⟩ ∈ wsJ7_copyOfRange_39247 := by decide +kernel
theorem ksJ7_copyOfRange_39247_k2 : Cond.sameMethod "[B" "java/lang/Object" "clone" "()Ljava/lang/Object;" ∈ wsJ7_copyOfRange_39247 := by decide +kernel
theorem ksJ7_copyOfRange_39247_k3 : Cond.native ⟨"java/lang/Object", "clone", "()Ljava/lang/Object;"⟩ ∈ wsJ7_copyOfRange_39247 := by decide +kernel
theorem ksJ7_copyOfRange_39247_k4 : Cond.instanceMethod ⟨"java/lang/Object", "clone", "()Ljava/lang/Object;"⟩ ∈ wsJ7_copyOfRange_39247 := by decide +kernel
theorem ksJ7_copyOfRange_39247_k5 : Cond.selects "[B" ⟨"[B", "clone", "()Ljava/lang/Object;"⟩ ⟨"java/lang/Object", "clone", "()Ljava/lang/Object;"⟩ ∈ wsJ7_copyOfRange_39247 := by decide +kernel
theorem ksJ7_copyOfRange_39247_cl : Cond.classLink RJ7 311 "[B" ∈ wsJ7_copyOfRange_39247 := by decide +kernel
theorem ksJ5_getValue_6d5f1_J4 : ∀ w ∈ u_ws RJ4 TJ4 4, w ∈ wsJ5_getValue_6d5f1 := by decide +kernel
theorem ksJ5_getValue_6d5f1_f15 : Cond.fieldLink RJ5 15 "java/lang/AbstractStringBuilder" "value" "[B" ∈ wsJ5_getValue_6d5f1 := by decide +kernel
theorem ksJ0_init_db425_o1 : Cond.methodLink RJ0 1 Lib.objectInit ∈ wsJ0_init_db425 := by decide +kernel
theorem ksJ0_init_db425_o2 : Cond.instanceMethod Lib.objectInit ∈ wsJ0_init_db425 := by decide +kernel
theorem ksJ0_init_db425_o3 : Cond.code Lib.objectInit ⟨#[0xb1]⟩ 1 none ∈ wsJ0_init_db425 := by decide +kernel
theorem ksJ0_init_db425_l0 : Cond.code ⟨"java/lang/AbstractStringBuilder", "length", "()I"⟩ cJ5_length_8abf5 1 (some .int) ∈ wsJ0_init_db425 := by decide +kernel
theorem ksJ0_init_db425_J0 : ∀ w ∈ u_ws RJ0 TJ0 4, w ∈ wsJ0_init_db425 := by decide +kernel
theorem ksJ0_init_db425_f15 : Cond.fieldLink RJ0 15 "java/lang/String" "coder" "B" ∈ wsJ0_init_db425 := by decide +kernel
theorem ksJ0_init_db425_f9 : Cond.fieldLink RJ0 9 "java/lang/String" "value" "[B" ∈ wsJ0_init_db425 := by decide +kernel
theorem ksJ0_init_81219_i1 : Cond.initialized RJ0 ∈ wsJ0_init_81219 := by decide +kernel
theorem ksJ0_init_81219_i2 : Cond.methodLink RJ0 489 yJ0_init_db425 ∈ wsJ0_init_81219 := by decide +kernel
theorem ksJ0_init_81219_i3 : Cond.instanceMethod yJ0_init_db425 ∈ wsJ0_init_81219 := by decide +kernel
theorem ksJ4_toString_0e30d_J0 : ∀ w ∈ u_ws RJ0 TJ0 4, w ∈ wsJ4_toString_0e30d := by decide +kernel
theorem ksJ4_toString_0e30d_n1 : Cond.classLink RJ4 18 RJ0 ∈ wsJ4_toString_0e30d := by decide +kernel
theorem ksJ4_toString_0e30d_n2 : Cond.instantiable RJ0 4 ∈ wsJ4_toString_0e30d := by decide +kernel
theorem ksJ4_toString_0e30d_n3 : Cond.initialized RJ0 ∈ wsJ4_toString_0e30d := by decide +kernel
theorem ksJ4_toString_0e30d_i1 : Cond.initialized RJ0 ∈ wsJ4_toString_0e30d := by decide +kernel
theorem ksJ4_toString_0e30d_i2 : Cond.methodLink RJ4 137 yJ0_init_81219 ∈ wsJ4_toString_0e30d := by decide +kernel
theorem ksJ4_toString_0e30d_i3 : Cond.instanceMethod yJ0_init_81219 ∈ wsJ4_toString_0e30d := by decide +kernel
theorem ksJ0_equals_9ea2d_cl : Cond.classLink RJ0 10 RJ0 ∈ wsJ0_equals_9ea2d := by decide +kernel
theorem ksJ0_equals_9ea2d_f38 : Cond.fieldLink RJ0 38 "java/lang/String" "COMPACT_STRINGS" "Z" ∈ wsJ0_equals_9ea2d := by decide +kernel
theorem ksJ0_equals_9ea2d_J0 : ∀ w ∈ u_ws RJ0 TJ0 4, w ∈ wsJ0_equals_9ea2d := by decide +kernel
theorem ksJ0_equals_9ea2d_f15 : Cond.fieldLink RJ0 15 "java/lang/String" "coder" "B" ∈ wsJ0_equals_9ea2d := by decide +kernel
theorem ksJ0_equals_9ea2d_f9 : Cond.fieldLink RJ0 9 "java/lang/String" "value" "[B" ∈ wsJ0_equals_9ea2d := by decide +kernel
set_option maxHeartbeats 4000000 in
set_option maxRecDepth 100000 in
theorem cs_check (l : Launch) {D : va_G} {Y : Nat → ClassId} {Z : (Nat → Prop) → State → Heap → Prop} (hZ : sg_Zok Z) {jK jV jT : Nat → Nat} (hJ : sg_ZJ Z jK jV jT) {n : Nat} (hn : n < 2147483648) : sg_MV l yJ7_checkLength_df160 wsJ7_checkLength_df160 0 0 D Y Z [.int (nb 0), .int (nb n)] [] [] := by
  intro sz
  refine sg_enter (own := RJ7) (maxL := 2) (ret := none) (cc := cJ7_checkLength_df160) (by decide +kernel) rfl rfl (Nat.le_of_ble_eq_true rfl) hZ ?_
  intro p e s m args below meth c C hr Q hQ hsz
  refine g_lv (lv2 := [(0, .int (nb 0)), (1, .int (nb n))]) [0, 1] rfl ?_
  refine g_iload_n 1 C dJ7_checkLength_df160_0 rfl rfl rfl ?_
  refine g_iload_n 2 C dJ7_checkLength_df160_1 rfl rfl rfl ?_
  refine g_icmp_ge 5 37 C dJ7_checkLength_df160_2 (by decide) rfl (T := some ()) (E := none) (v := ()) (if_neg (nb_lt_f (Nat.zero_le n) hn)) (fun _ => ?_) (fun h => by cases h)
  exact g_vret C hr hQ hsz dJ7_checkLength_df160_37 rfl
theorem cs_min {n r : Nat} (h : n ≤ r ∧ r < 100000) : (if nb n < nb r then nb n else nb r) = nb n := by
  by_cases e : n < r
  · rw [if_pos (nb_lt_t e (by omega))]
  · rw [if_neg (nb_lt_f (by omega) (by omega)), (by omega : r = n)]
def cs_P (n : Nat) (f : Nat → Int32) (u : Nat × (Nat → Int32)) : Prop := ∀ j, j < n → u.2 j = f j
theorem cs_cp {f g : Nat → Int32} {n j : Nat} (h : j < n) : va_cpy f g 0 0 n j = f j := by
  rw [nb_cpy, if_pos h]
set_option maxHeartbeats 4000000 in
set_option maxRecDepth 100000 in
theorem cs_cprb (l : Launch) {D : va_G} {Y : Nat → ClassId} {Z : (Nat → Prop) → State → Heap → Prop} (hZ : sg_Zok Z) {jK jV jT : Nat → Nat} (hJ : sg_ZJ Z jK jV jT) {v n r : Nat} {f : Nat → Int32} (hn : n ≤ r ∧ r < 100000) (hf : ∀ i, i < n → fits .byte (.int (f i)) = true) : sg_XR l yJ7_copyOfRangeByte_39247 wsJ7_copyOfRangeByte_39247 1 60 1 n D Y Z [.ref v, .int (nb 0), .int (nb n)] [(v, .inl (Y 1, r, .inl f))] (cs_P n f) (fun u => u.1) (fun u => [(v, .inl (Y 1, r, .inl f)), (u.1, .inl (Y 1, n, .inl u.2))]) := by
  intro sz
  refine sg_enterX (own := RJ7) (maxL := 5) (ret := (some (.array .byte))) (cc := cJ7_copyOfRangeByte_39247) (by decide +kernel) rfl rfl (Nat.le_of_ble_eq_true rfl) hZ ?_
  intro p e s m args below meth c C hr hin Q hQ hsz
  refine g_lv (lv2 := [(0, .ref v), (1, .int (nb 0)), (2, .int (nb n))]) [0, 1, 2] rfl ?_
  refine g_iload_n 1 C dJ7_copyOfRangeByte_39247_0 rfl rfl rfl ?_
  refine g_iload_n 2 C dJ7_copyOfRangeByte_39247_1 rfl rfl rfl ?_
  refine g_callSv 5 C (w2 := [(v, .inl (Y 1, r, .inl f))]) (As := [.int (nb 0), .int (nb n)]) (st := []) (n0 := 2) [] [0] [0] (cs_check l hZ hJ (by omega)) gJ7_copyOfRangeByte_39247_J7_checkLength_df160 ⟨by decide +kernel, by decide +kernel, rfl⟩ rfl ⟨(Nat.le_of_ble_eq_true rfl), (Nat.le_of_ble_eq_true rfl)⟩ ⟨rfl, rfl, rfl, by decide, rfl, rfl⟩ rfl rfl (Nat.le_of_ble_eq_true rfl) ⟨Nat.zero_le _, Nat.zero_le _⟩ dJ7_copyOfRangeByte_39247_2 rfl rfl ?_
  refine g_iload_n 6 C dJ7_copyOfRangeByte_39247_5 rfl rfl rfl ?_
  refine g_iload_n 7 C dJ7_copyOfRangeByte_39247_6 rfl rfl rfl ?_
  refine g_isub 8 C dJ7_copyOfRangeByte_39247_7 rfl ?_
  refine g_top (v := (nb n)) (nb_sub (Nat.zero_le n)).symm ?_
  refine g_istore_n 9 C [(3, .int (nb n)), (0, .ref v), (1, .int (nb 0)), (2, .int (nb n))] dJ7_copyOfRangeByte_39247_8 rfl rfl (by decide) rfl ?_
  refine g_iload_n 10 C dJ7_copyOfRangeByte_39247_9 rfl rfl rfl ?_
  refine g_newaB 12 C ksJ7_copyOfRangeByte_39247_ab (nb_nneg (by omega)) (nb_tn (by omega)) (by show n * 1 ≤ 536870912; omega) (Nat.le_of_ble_eq_true rfl) (by show 0 + n ≤ n; omega) dJ7_copyOfRangeByte_39247_10 rfl (fun q => ?_)
  refine g_astore 14 C [(4, .ref q), (3, .int (nb n)), (0, .ref v), (1, .int (nb 0)), (2, .int (nb n))] dJ7_copyOfRangeByte_39247_12 rfl (by decide) rfl ?_
  refine g_aload_n 15 C dJ7_copyOfRangeByte_39247_14 rfl rfl rfl ?_
  refine g_iload_n 16 C dJ7_copyOfRangeByte_39247_15 rfl rfl rfl ?_
  refine g_aload 18 C dJ7_copyOfRangeByte_39247_16 rfl rfl ?_
  refine g_iconst 19 C (nb 0) dJ7_copyOfRangeByte_39247_18 rfl (by decide) ?_
  refine g_aload_n 20 C dJ7_copyOfRangeByte_39247_19 rfl rfl rfl ?_
  refine g_alen 21 C (v := nb r) 0 1 dJ7_copyOfRangeByte_39247_20 rfl rfl rfl rfl ?_
  refine g_iload_n 22 C dJ7_copyOfRangeByte_39247_21 rfl rfl rfl ?_
  refine g_isub 23 C dJ7_copyOfRangeByte_39247_22 rfl ?_
  refine g_top (v := (nb r)) (nb_sub (Nat.zero_le r)).symm ?_
  refine g_iload_n 24 C dJ7_copyOfRangeByte_39247_23 rfl rfl rfl ?_
  refine g_mmin 27 C ksJ7_copyOfRangeByte_39247_mm ksJ7_copyOfRangeByte_39247_ms ksJ7_copyOfRangeByte_39247_mi ksJ7_copyOfRangeByte_39247_mc (Nat.le_of_ble_eq_true rfl) (Nat.le_of_ble_eq_true rfl) (Nat.le_of_ble_eq_true rfl) (by show 0 + n ≤ n; omega) dJ7_copyOfRangeByte_39247_24 rfl ?_
  refine g_top (v := (nb n)) (cs_min hn).symm ?_
  refine g_copyb 30 C (w2 := [(v, .inl (Y 1, r, .inl f)), (q, .inl (Y 1, n, .inl (va_cpy f (fun _ => 0) 0 0 n)))]) (f := f) (g := fun _ => 0) (n0 := r) (n1 := n) 0 1 ksJ7_copyOfRangeByte_39247_ml ksJ7_copyOfRangeByte_39247_nat ksJ7_copyOfRangeByte_39247_sta ksJ7_copyOfRangeByte_39247_ini rfl rfl (by decide) (by decide) (nb_nneg (by omega)) (by rw [nb_tn (a := n) (by omega), nb_tn (a := 0) (by omega)]; omega) (by rw [nb_tn (a := n) (by omega), nb_tn (a := 0) (by omega)]; omega) (fun i hi => by rw [nb_tn (a := n) (by omega)] at hi; rw [nb_tn (a := 0) (by omega), Nat.zero_add]; exact hf i hi) (Nat.le_of_ble_eq_true rfl) (by show _ ≤ 60; decide) dJ7_copyOfRangeByte_39247_27 rfl (by rw [nb_tn (a := n) (by omega), nb_tn (a := 0) (by omega)]; rfl) ?_
  refine g_aload 32 C dJ7_copyOfRangeByte_39247_30 rfl rfl ?_
  refine g_widen 1 n (Nat.le_refl 1) (by show 0 + n ≤ n; omega) ?_
  exact g_aretX (P := cs_P n f) (ra := fun u => u.1) (w' := fun u => [(v, .inl (Y 1, r, .inl f)), (u.1, .inl (Y 1, n, .inl u.2))]) ((q, va_cpy f (fun _ => 0) 0 0 n) : Nat × (Nat → Int32)) C hr (Or.inr ⟨_, rfl⟩) hQ hsz dJ7_copyOfRangeByte_39247_32 (fun j hj => (show va_cpy f (fun _ => 0) 0 0 n j = f j from cs_cp hj)) rfl rfl
set_option maxHeartbeats 4000000 in
set_option maxRecDepth 100000 in
theorem cs_cpr (l : Launch) {D : va_G} {Y : Nat → ClassId} {Z : (Nat → Prop) → State → Heap → Prop} (hZ : sg_Zok Z) {jK jV jT : Nat → Nat} (hJ : sg_ZJ Z jK jV jT) (hB : sg_Zb Z) {v n r : Nat} {f : Nat → Int32} (hn : n ≤ r ∧ r < 100000) (hf : ∀ i, i < n → fits .byte (.int (f i)) = true) : sg_XR l yJ7_copyOfRange_39247 wsJ7_copyOfRange_39247 2 90 1 n D Y Z [.ref v, .int (nb 0), .int (nb n)] [(v, .inl (Y 1, r, .inl f))] (cs_P n f) (fun u => u.1) (fun u => [(v, .inl (Y 1, r, .inl f)), (u.1, .inl (Y 1, n, .inl u.2))]) := by
  intro sz
  refine sg_enterX (own := RJ7) (maxL := 3) (ret := (some (.array .byte))) (cc := cJ7_copyOfRange_39247) (by decide +kernel) rfl rfl (Nat.le_of_ble_eq_true rfl) hZ ?_
  intro p e s m args below meth c C hr hin Q hQ hsz
  refine g_lv (lv2 := [(0, .ref v), (1, .int (nb 0)), (2, .int (nb n))]) [0, 1, 2] rfl ?_
  refine g_iload_n 1 C dJ7_copyOfRange_39247_0 rfl rfl rfl ?_
  refine g_if_ne 4 10 C dJ7_copyOfRange_39247_1 (by decide) rfl (T := none) (E := some ()) (v := ()) (if_pos rfl) (fun h => by cases h) (fun _ => ?_)
  refine g_iload_n 5 C dJ7_copyOfRange_39247_4 rfl rfl rfl ?_
  refine g_aload_n 6 C dJ7_copyOfRange_39247_5 rfl rfl rfl ?_
  refine g_alen 7 C (v := nb r) 0 1 dJ7_copyOfRange_39247_6 rfl rfl rfl rfl ?_
  by_cases e : n = r
  · skip
    refine g_icmp_eq 10 17 C dJ7_copyOfRange_39247_7 (by decide) rfl (T := some ()) (E := none) (v := ()) (if_pos (by rw [e])) (fun _ => ?_) (fun h => by cases h)
    refine g_aload_n 18 C dJ7_copyOfRange_39247_17 rfl rfl rfl ?_
    refine g_cloneB 21 C hB (N := r) (f := f) 0 ksJ7_copyOfRange_39247_k1 ksJ7_copyOfRange_39247_k2 ksJ7_copyOfRange_39247_k3 ksJ7_copyOfRange_39247_k4 ksJ7_copyOfRange_39247_k5 rfl (fun i hi => hf i (by omega)) (Nat.le_of_ble_eq_true rfl) (Nat.le_of_ble_eq_true rfl) (Nat.le_of_ble_eq_true rfl) (by show 0 + r ≤ n; omega) dJ7_copyOfRange_39247_18 rfl (fun q => ?_)
    refine g_castB 24 C 1 ksJ7_copyOfRange_39247_cl rfl dJ7_copyOfRange_39247_21 rfl ?_
    refine g_widen 1 n (Nat.le_refl 1) (by show 0 + r ≤ n; omega) ?_
    exact g_aretX (P := cs_P n f) (ra := fun u => u.1) (w' := fun u => [(v, .inl (Y 1, r, .inl f)), (u.1, .inl (Y 1, n, .inl u.2))]) ((q, f) : Nat × (Nat → Int32)) C hr (Or.inr ⟨_, rfl⟩) hQ hsz dJ7_copyOfRange_39247_24 (fun j _ => rfl) rfl (by rw [e]; rfl)
  · skip
    refine g_icmp_eq 10 17 C dJ7_copyOfRange_39247_7 (by decide) rfl (T := none) (E := some ()) (v := ()) (if_neg (nb_ne e (by omega) (by omega))) (fun h => by cases h) (fun _ => ?_)
    refine g_aload_n 11 C dJ7_copyOfRange_39247_10 rfl rfl rfl ?_
    refine g_iload_n 12 C dJ7_copyOfRange_39247_11 rfl rfl rfl ?_
    refine g_iload_n 13 C dJ7_copyOfRange_39247_12 rfl rfl rfl ?_
    refine g_XSr 16 C (w2 := fun u => [(v, .inl (Y 1, r, .inl f)), (u.1, .inl (Y 1, n, .inl u.2))]) (As := [.ref v, .int (nb 0), .int (nb n)]) (st := []) (n0 := 3) (cs_cprb l hZ hJ hn hf) gJ7_copyOfRange_39247_J7_copyOfRangeByte_39247 ⟨by decide +kernel, by decide +kernel, rfl⟩ rfl ⟨(Nat.le_of_ble_eq_true rfl), (Nat.le_of_ble_eq_true rfl)⟩ ⟨[], by rw [List.append_nil], fun _ => List.Perm.of_eq (List.nil_append _)⟩ rfl (Nat.le_of_ble_eq_true rfl) ⟨(Nat.le_of_ble_eq_true rfl), (by show 0 + n ≤ n; omega)⟩ dJ7_copyOfRange_39247_13 rfl rfl (fun u hu => ?_)
    refine g_widen 1 n (Nat.le_refl 1) (by show 0 + n ≤ n; omega) ?_
    exact g_aretX (P := cs_P n f) (ra := fun u => u.1) (w' := fun u => [(v, .inl (Y 1, r, .inl f)), (u.1, .inl (Y 1, n, .inl u.2))]) u C hr (Or.inr ⟨_, rfl⟩) hQ hsz dJ7_copyOfRange_39247_16 hu rfl rfl
set_option maxHeartbeats 4000000 in
set_option maxRecDepth 100000 in
theorem cs_getValue (l : Launch) {D : va_G} {Y : Nat → ClassId} {Z : (Nat → Prop) → State → Heap → Prop} (hZ : sg_Zok Z) {jK jV jT : Nat → Nat} (hJ : sg_ZJ Z jK jV jT) {ad : Nat → Nat} {κ : sg_S} : sg_XR l yJ5_getValue_6d5f1 wsJ5_getValue_6d5f1 0 0 0 0 D Y Z [.ref (ad 0)] (ww_J4 Y ad κ) (fun _ : Unit => True) (fun _ => ad 1) (fun _ => ww_J4 Y ad κ) := by
  intro sz
  refine sg_enterX (own := RJ5) (maxL := 1) (ret := (some (.array .byte))) (cc := cJ5_getValue_6d5f1) (by decide +kernel) rfl rfl (Nat.le_of_ble_eq_true rfl) hZ ?_
  intro p e s m args below meth c C hr hin Q hQ hsz
  refine g_lv (lv2 := [(0, .ref (ad 0))]) [0] rfl ?_
  refine g_aload_n 1 C dJ5_getValue_6d5f1_0 rfl rfl rfl ?_
  refine g_get 4 C (own := RJ5) (C1 := RJ4) (T := TJ4) 0 0 (.ref (ad 1)) ksJ5_getValue_6d5f1_J4 ksJ5_getValue_6d5f1_f15 rfl dJ5_getValue_6d5f1_1 rfl rfl rfl (by decide) rfl ?_
  exact g_aretX (P := fun (_ : Unit) => True) (ra := fun _ => ad 1) (w' := fun _ => ww_J4 Y ad κ) () C hr (Or.inr ⟨_, rfl⟩) hQ hsz dJ5_getValue_6d5f1_4 trivial rfl rfl
theorem sg_pmI1 (a b c : Nat × va_E) : [a, b, c].Perm [c, a, b] := by
  have h : [0, 1, 2].Perm [2, 0, 1] := by decide
  exact h.map (fun i => match i with | 0 => a | 1 => b | _ => c)
theorem sg_pmI2 (a b c d : Nat × va_E) : [a, b, c, d].Perm [b, c, a, d] := by
  have h : [0, 1, 2, 3].Perm [1, 2, 0, 3] := by decide
  exact h.map (fun i => match i with | 0 => a | 1 => b | 2 => c | _ => d)
theorem cut_ini (Y : Nat → ClassId) (ad : Nat → Nat) (κ : sg_S) (a n : Nat) : ∃ wr : va_W, ((([(a, .inr (0, [.null, .int 0, .int 0, .int 0]))] : va_W) ++ ww_J4 Y ad κ)).Perm (([(ad 1, .inl (Y 1, (κ 0 0).toNatClampNeg, .inl (κ 1)))] : va_W) ++ wr) ∧ ∀ u : Nat × (Nat → Int32), (wr ++ ([(ad 1, .inl (Y 1, (κ 0 0).toNatClampNeg, .inl (κ 1))), (u.1, .inl (Y 1, n, .inl u.2))] : va_W)).Perm ((([(a, .inr (0, [.null, .int 0, .int 0, .int 0]))] : va_W) ++ ww_J4 Y ad κ) ++ ([(u.1, .inl (Y 1, n, .inl u.2))] : va_W)) :=
  ⟨[(a, .inr (0, [.null, .int 0, .int 0, .int 0])), (ad 0, .inr (1, [.ref (ad 1), .int (κ 0 1), .int (κ 0 2), .int (κ 0 3)]))], sg_pmI1 _ _ _, fun _ => List.Perm.refl _⟩
set_option maxHeartbeats 4000000 in
set_option maxRecDepth 100000 in
theorem cs_init2 (l : Launch) {D : va_G} {Y : Nat → ClassId} {Z : (Nat → Prop) → State → Heap → Prop} (hZ : sg_Zok Z) {jK jV jT : Nat → Nat} (hJ : sg_ZJ Z jK jV jT) (hB : sg_Zb Z) {a n : Nat} {ad : Nat → Nat} {κ : sg_S} (h3 : κ 0 3 = nb n) (hc : κ 0 1 = 0) (hn : n ≤ (κ 0 0).toNatClampNeg ∧ (κ 0 0).toNatClampNeg < 100000) (hf : ∀ i, i < n → fits .byte (.int (κ 1 i)) = true) : sg_XV l yJ0_init_db425 wsJ0_init_db425 3 130 1 n D Y Z [.ref a, .ref (ad 0), .null] (([(a, .inr (0, [.null, .int 0, .int 0, .int 0]))] : va_W) ++ ww_J4 Y ad κ) (cs_P n (κ 1)) (fun u => [(a, .inr (0, [.ref u.1, .int 0, .int 0, .int 0]))] ++ ww_J4 Y ad κ ++ [(u.1, .inl (Y 1, n, .inl u.2))]) := by
  intro sz
  refine sg_enterX (own := RJ0) (maxL := 5) (ret := none) (cc := cJ0_init_db425) (by decide +kernel) rfl rfl (Nat.le_of_ble_eq_true rfl) hZ ?_
  intro p e s m args below meth c C hr hin Q hQ hsz
  refine g_lv (lv2 := [(0, .ref a), (1, .ref (ad 0)), (2, .null)]) [0, 1, 2] rfl ?_
  refine g_aload_n 1 C dJ0_init_db425_0 rfl rfl rfl ?_
  refine g_objInit 4 C ksJ0_init_db425_o1 ksJ0_init_db425_o2 ksJ0_init_db425_o3 (Nat.le_of_ble_eq_true rfl) (Nat.le_of_ble_eq_true rfl) dJ0_init_db425_1 rfl ?_
  refine g_aload_n 5 C dJ0_init_db425_4 rfl rfl rfl ?_
  refine g_XUr 8 C (w2 := fun _ => (([(a, .inr (0, [.null, .int 0, .int 0, .int 0]))] : va_W) ++ ww_J4 Y ad κ)) (As := []) (st := []) (n0 := 0) (C2 := RJ4) (ci := 1) (q0 := 1) (cs_getValue l hZ hJ (ad := ad) (κ := κ)) gJ0_init_db425_J5_getValue_6d5f1_u552J4 rfl ⟨by decide +kernel, by decide +kernel, rfl⟩ rfl ⟨(Nat.le_of_ble_eq_true rfl), (Nat.le_of_ble_eq_true rfl)⟩ rfl rfl ⟨([(a, .inr (0, [.null, .int 0, .int 0, .int 0]))] : va_W), List.perm_append_comm, fun _ => List.Perm.refl _⟩ rfl (Nat.le_of_ble_eq_true rfl) ⟨(Nat.le_of_ble_eq_true rfl), Nat.zero_le _⟩ dJ0_init_db425_5 rfl rfl (fun _ _ => ?_)
  refine g_astore_n 9 C [(3, .ref (ad 1)), (0, .ref a), (1, .ref (ad 0)), (2, .null)] dJ0_init_db425_8 rfl rfl (by decide) rfl ?_
  refine g_aload_n 10 C dJ0_init_db425_9 rfl rfl rfl ?_
  refine g_callOi 13 C (w2 := (([(a, .inr (0, [.null, .int 0, .int 0, .int 0]))] : va_W) ++ ww_J4 Y ad κ)) (As := []) (st := []) (n0 := 0) (C2 := RJ4) (ci := 1) (q0 := 1) (c_J4_length_8abf5 l hZ (ad := ad) (σ := κ) (r := nb n) (by unfold f_J4_length_8abf5 f_J5_length_8abf5; rw [h3]; rfl)) gJ0_init_db425_J4_length_8abf5_u549J4 ksJ0_init_db425_l0 ⟨by decide +kernel, by decide +kernel, rfl⟩ rfl ⟨(Nat.le_of_ble_eq_true rfl), (Nat.le_of_ble_eq_true rfl)⟩ rfl rfl (sg_cutMid 1 2 rfl rfl) rfl (Nat.le_of_ble_eq_true rfl) ⟨(Nat.le_of_ble_eq_true rfl), Nat.zero_le _⟩ dJ0_init_db425_10 rfl rfl ?_
  refine g_istore 15 C [(4, .int (nb n)), (3, .ref (ad 1)), (0, .ref a), (1, .ref (ad 0)), (2, .null)] dJ0_init_db425_13 rfl (by decide) rfl ?_
  refine g_aload_n 16 C dJ0_init_db425_15 rfl rfl rfl ?_
  refine g_callUi 19 C (w2 := (([(a, .inr (0, [.null, .int 0, .int 0, .int 0]))] : va_W) ++ ww_J4 Y ad κ)) (As := []) (st := []) (n0 := 0) (C2 := RJ4) (ci := 1) (q0 := 1) (c_J5_isLatin1_aae02 l hZ hJ (ad := ad) (σ := κ) (r := 1) (by unfold f_J5_isLatin1_aae02; rw [hc]; rfl)) gJ0_init_db425_J5_isLatin1_aae02_u1047J4 rfl ⟨by decide +kernel, by decide +kernel, rfl⟩ rfl ⟨(Nat.le_of_ble_eq_true rfl), (Nat.le_of_ble_eq_true rfl)⟩ rfl rfl (sg_cutMid 1 2 rfl rfl) rfl (Nat.le_of_ble_eq_true rfl) ⟨(Nat.le_of_ble_eq_true rfl), Nat.zero_le _⟩ dJ0_init_db425_16 rfl rfl ?_
  refine g_if_eq 22 41 C dJ0_init_db425_19 (by decide) rfl (T := none) (E := some ()) (v := ()) (if_neg (by decide)) (fun h => by cases h) (fun _ => ?_)
  refine g_aload_n 23 C dJ0_init_db425_22 rfl rfl rfl ?_
  refine g_iconst 24 C (nb 0) dJ0_init_db425_23 rfl (by decide) ?_
  refine g_top (v := 0) (by decide) ?_
  refine g_putF 27 C (own := RJ0) (C1 := RJ0) (T := TJ0) (w2 := (([(a, .inr (0, [.null, .int 0, .int 0, .int 0]))] : va_W) ++ ww_J4 Y ad κ)) 0 1 tyJ0 tyJ0_ok nmJ0 ksJ0_init_db425_J0 ksJ0_init_db425_f15 rfl rfl hin rfl (ty := .byte) (by decide) rfl rfl (sg_blt rfl) dJ0_init_db425_24 rfl rfl rfl (by decide) rfl ?_
  refine g_aload_n 28 C dJ0_init_db425_27 rfl rfl rfl ?_
  refine g_aload_n 29 C dJ0_init_db425_28 rfl rfl rfl ?_
  refine g_iconst 30 C (nb 0) dJ0_init_db425_29 rfl (by decide) ?_
  refine g_iload 32 C dJ0_init_db425_30 rfl rfl ?_
  refine g_XSr 35 C (w2 := fun u => (([(a, .inr (0, [.null, .int 0, .int 0, .int 0]))] : va_W) ++ ww_J4 Y ad κ) ++ [(u.1, .inl (Y 1, n, .inl u.2))]) (As := [.ref (ad 1), .int (nb 0), .int (nb n)]) (st := [.ref a]) (n0 := 3) (cs_cpr l hZ hJ hB (v := ad 1) (r := (κ 0 0).toNatClampNeg) (f := κ 1) hn hf) gJ0_init_db425_J7_copyOfRange_39247 ⟨by decide +kernel, by decide +kernel, rfl⟩ rfl ⟨(Nat.le_of_ble_eq_true rfl), (Nat.le_of_ble_eq_true rfl)⟩ (cut_ini Y ad κ a n) rfl (Nat.le_of_ble_eq_true rfl) ⟨(Nat.le_of_ble_eq_true rfl), (by show 0 + 0 + n ≤ n; omega)⟩ dJ0_init_db425_32 rfl rfl (fun u hu => ?_)
  refine g_putF 38 C (own := RJ0) (C1 := RJ0) (T := TJ0) (w2 := [(a, .inr (0, [.ref u.1, .int 0, .int 0, .int 0]))] ++ ww_J4 Y ad κ ++ [(u.1, .inl (Y 1, n, .inl u.2))]) 0 0 tyJ0 tyJ0_ok nmJ0 ksJ0_init_db425_J0 ksJ0_init_db425_f9 rfl rfl hin rfl (ty := .array .byte) (by decide) rfl rfl (sg_blt rfl) dJ0_init_db425_35 rfl rfl rfl (by decide) rfl ?_
  refine g_goto 97 C dJ0_init_db425_38 (by decide) ?_
  refine g_widen 1 n (Nat.le_refl 1) (by show 0 + 0 + n ≤ n; omega) ?_
  exact g_vretX (P := cs_P n (κ 1)) (w' := (fun u => [(a, .inr (0, [.ref u.1, .int 0, .int 0, .int 0]))] ++ ww_J4 Y ad κ ++ [(u.1, .inl (Y 1, n, .inl u.2))])) u C hr hQ hsz dJ0_init_db425_97 hu rfl
set_option maxHeartbeats 4000000 in
set_option maxRecDepth 100000 in
theorem cs_init1 (l : Launch) {D : va_G} {Y : Nat → ClassId} {Z : (Nat → Prop) → State → Heap → Prop} (hZ : sg_Zok Z) {jK jV jT : Nat → Nat} (hJ : sg_ZJ Z jK jV jT) (hB : sg_Zb Z) {a n : Nat} {ad : Nat → Nat} {κ : sg_S} (h3 : κ 0 3 = nb n) (hc : κ 0 1 = 0) (hn : n ≤ (κ 0 0).toNatClampNeg ∧ (κ 0 0).toNatClampNeg < 100000) (hf : ∀ i, i < n → fits .byte (.int (κ 1 i)) = true) : sg_XV l yJ0_init_81219 wsJ0_init_81219 4 154 1 n D Y Z [.ref a, .ref (ad 0)] (([(a, .inr (0, [.null, .int 0, .int 0, .int 0]))] : va_W) ++ ww_J4 Y ad κ) (cs_P n (κ 1)) (fun u => [(a, .inr (0, [.ref u.1, .int 0, .int 0, .int 0]))] ++ ww_J4 Y ad κ ++ [(u.1, .inl (Y 1, n, .inl u.2))]) := by
  intro sz
  refine sg_enterX (own := RJ0) (maxL := 2) (ret := none) (cc := cJ0_init_81219) (by decide +kernel) rfl rfl (Nat.le_of_ble_eq_true rfl) hZ ?_
  intro p e s m args below meth c C hr hin Q hQ hsz
  refine g_lv (lv2 := [(0, .ref a), (1, .ref (ad 0))]) [0, 1] rfl ?_
  refine g_aload_n 1 C dJ0_init_81219_0 rfl rfl rfl ?_
  refine g_aload_n 2 C dJ0_init_81219_1 rfl rfl rfl ?_
  refine g_null 3 C dJ0_init_81219_2 rfl ?_
  refine g_XIv 6 C (ret := none) (w2 := (fun u => [(a, .inr (0, [.ref u.1, .int 0, .int 0, .int 0]))] ++ ww_J4 Y ad κ ++ [(u.1, .inl (Y 1, n, .inl u.2))])) (As := [.ref (ad 0), .null]) (st := []) (n0 := 2) (cs_init2 l hZ hJ hB h3 hc hn hf) gJ0_init_81219_J0_init_db425 ksJ0_init_81219_i1 ksJ0_init_81219_i2 ksJ0_init_81219_i3 rfl ⟨by decide +kernel, by decide +kernel, rfl⟩ rfl ⟨(Nat.le_of_ble_eq_true rfl), (Nat.le_of_ble_eq_true rfl)⟩ ⟨[], by rw [List.append_nil], fun _ => List.Perm.of_eq (List.nil_append _)⟩ rfl (Nat.le_of_ble_eq_true rfl) ⟨(Nat.le_of_ble_eq_true rfl), (by show 0 + n ≤ n; omega)⟩ dJ0_init_81219_3 rfl rfl (fun u hu => ?_)
  refine g_widen 1 n (Nat.le_refl 1) (by show 0 + n ≤ n; omega) ?_
  exact g_vretX (P := cs_P n (κ 1)) (w' := (fun u => [(a, .inr (0, [.ref u.1, .int 0, .int 0, .int 0]))] ++ ww_J4 Y ad κ ++ [(u.1, .inl (Y 1, n, .inl u.2))])) u C hr hQ hsz dJ0_init_81219_6 hu rfl
set_option maxHeartbeats 4000000 in
set_option maxRecDepth 100000 in
theorem cs_toString (l : Launch) {D : va_G} {Y : Nat → ClassId} {Z : (Nat → Prop) → State → Heap → Prop} (hZ : sg_Zok Z) {jK jV jT : Nat → Nat} (hJ : sg_ZJ Z jK jV jT) (hB : sg_Zb Z) {n : Nat} {ad : Nat → Nat} {κ : sg_S} (h3 : κ 0 3 = nb n) (hc : κ 0 1 = 0) (hn : n ≤ (κ 0 0).toNatClampNeg ∧ (κ 0 0).toNatClampNeg < 100000) (hf : ∀ i, i < n → fits .byte (.int (κ 1 i)) = true) : sg_XR l yJ4_toString_0e30d wsJ4_toString_0e30d 5 180 2 (4 + n) D Y Z [.ref (ad 0)] (ww_J4 Y ad κ) (fun u : Nat × Nat × (Nat → Int32) => ∀ j, j < n → u.2.2 j = κ 1 j) (fun u => u.1) (fun u => ww_J4 Y ad κ ++ ww_S Y u.1 u.2.1 0 0 n u.2.2) := by
  intro sz
  refine sg_enterX (own := RJ4) (maxL := 1) (ret := (some (.object "java/lang/String"))) (cc := cJ4_toString_0e30d) (by decide +kernel) rfl rfl (Nat.le_of_ble_eq_true rfl) hZ ?_
  intro p e s m args below meth c C hr hin Q hQ hsz
  refine g_lv (lv2 := [(0, .ref (ad 0))]) [0] rfl ?_
  refine g_new 3 C (C1 := RJ0) (T := TJ0) (N := 4) (ci := 0) [.null, .int 0, .int 0, .int 0] tyJ0 tyJ0_ok ksJ4_toString_0e30d_J0 ksJ4_toString_0e30d_n1 ksJ4_toString_0e30d_n2 ksJ4_toString_0e30d_n3 rfl (by decide +kernel) (Nat.le_of_ble_eq_true rfl) (by show 0 + 4 ≤ 4 + n; omega) dJ4_toString_0e30d_0 rfl (fun a => ?_)
  refine g_dup 4 C dJ4_toString_0e30d_3 rfl rfl ?_
  refine g_aload_n 5 C dJ4_toString_0e30d_4 rfl rfl rfl ?_
  refine g_XIv 8 C (ret := none) (w2 := (fun u => [(a, .inr (0, [.ref u.1, .int 0, .int 0, .int 0]))] ++ ww_J4 Y ad κ ++ [(u.1, .inl (Y 1, n, .inl u.2))])) (As := [.ref (ad 0)]) (st := [.ref a]) (n0 := 1) (cs_init1 l hZ hJ hB (a := a) h3 hc hn hf) gJ4_toString_0e30d_J0_init_81219 ksJ4_toString_0e30d_i1 ksJ4_toString_0e30d_i2 ksJ4_toString_0e30d_i3 rfl ⟨by decide +kernel, by decide +kernel, rfl⟩ rfl ⟨(Nat.le_of_ble_eq_true rfl), (Nat.le_of_ble_eq_true rfl)⟩ ⟨[], (by rw [List.append_nil]; exact List.perm_append_comm), fun _ => List.Perm.of_eq (List.nil_append _)⟩ rfl (Nat.le_of_ble_eq_true rfl) ⟨(Nat.le_of_ble_eq_true rfl), (by show 0 + 4 + n ≤ 4 + n; omega)⟩ dJ4_toString_0e30d_5 rfl rfl (fun u hu => ?_)
  refine g_widen 2 (4 + n) (Nat.le_of_ble_eq_true rfl) (by show 0 + 4 + n ≤ 4 + n; omega) ?_
  refine g_perm (w2 := ww_J4 Y ad κ ++ ww_S Y a u.1 0 0 n u.2) (sg_pmI2 _ _ _ _) ?_
  exact g_aretX (P := fun u : Nat × Nat × (Nat → Int32) => ∀ j, j < n → u.2.2 j = κ 1 j) (ra := fun u => u.1) (w' := (fun u => ww_J4 Y ad κ ++ ww_S Y u.1 u.2.1 0 0 n u.2.2)) ((a, u.1, u.2) : Nat × Nat × (Nat → Int32)) C hr (Or.inl ⟨_, rfl⟩) hQ hsz dJ4_toString_0e30d_8 hu rfl rfl
set_option maxHeartbeats 4000000 in
set_option maxRecDepth 100000 in
theorem cs_eqB (l : Launch) {D : va_G} {Y : Nat → ClassId} {Z : (Nat → Prop) → State → Heap → Prop} (hZ : sg_Zok Z) {jK jV jT : Nat → Nat} (hJ : sg_ZJ Z jK jV jT) {v v2 n : Nat} {f g : Nat → Int32} (hn : n < 100000) (hfg : ∀ i, i < n → f i = g i) : sg_MI l yJ1_equals_b5fdf wsJ1_equals_b5fdf 0 0 D Y Z [.ref v, .ref v2] [(v, .inl (Y 1, n, .inl f)), (v2, .inl (Y 1, n, .inl g))] 1 [(v, .inl (Y 1, n, .inl f)), (v2, .inl (Y 1, n, .inl g))] := by
  intro sz
  refine sg_enter (own := RJ1) (maxL := 3) (ret := (some .boolean)) (cc := cJ1_equals_b5fdf) (by decide +kernel) rfl rfl (Nat.le_of_ble_eq_true rfl) hZ ?_
  intro p e s m args below meth c C hr Q hQ hsz
  refine g_lv (lv2 := [(0, .ref v), (1, .ref v2)]) [0, 1] rfl ?_
  have Kl : ∀ m2 i, i + m2 = n → sg_G p l e ({ frames := 0, cells := 0, slots := 0, locals := 0 } : Room) s m args below meth c D (va_A [(v, .inl (Y 1, n, .inl f)), (v2, .inl (Y 1, n, .inl g))] s.heap.size) 3 0 0 Q 9 [(0, .ref v), (1, .ref v2), (2, .int (nb i))] [] [(v, .inl (Y 1, n, .inl f)), (v2, .inl (Y 1, n, .inl g))] := by
    intro m2
    induction m2 with
    | zero =>
      intro i hi
      refine g_iload_n 10 C dJ1_equals_b5fdf_9 rfl rfl rfl ?_
      refine g_aload_n 11 C dJ1_equals_b5fdf_10 rfl rfl rfl ?_
      refine g_alen 12 C (v := nb n) 0 1 dJ1_equals_b5fdf_11 rfl rfl rfl rfl ?_
      refine g_icmp_ge 15 32 C dJ1_equals_b5fdf_12 (by decide) rfl (T := some ()) (E := none) (v := ()) (if_neg (nb_lt_f (by omega) (by omega))) (fun _ => ?_) (fun h => by cases h)
      refine g_iconst 33 C (nb 1) dJ1_equals_b5fdf_32 rfl (by decide) ?_
      exact g_iret C hr rfl hQ hsz dJ1_equals_b5fdf_33 (by decide) rfl
    | succ m2 ih =>
      intro i hi
      refine g_iload_n 10 C dJ1_equals_b5fdf_9 rfl rfl rfl ?_
      refine g_aload_n 11 C dJ1_equals_b5fdf_10 rfl rfl rfl ?_
      refine g_alen 12 C (v := nb n) 0 1 dJ1_equals_b5fdf_11 rfl rfl rfl rfl ?_
      refine g_icmp_ge 15 32 C dJ1_equals_b5fdf_12 (by decide) rfl (T := none) (E := some ()) (v := ()) (if_pos (nb_lt_t (by omega) (by omega))) (fun h => by cases h) (fun _ => ?_)
      refine g_aload_n 16 C dJ1_equals_b5fdf_15 rfl rfl rfl ?_
      refine g_iload_n 17 C dJ1_equals_b5fdf_16 rfl rfl rfl ?_
      refine g_baldc 18 C 0 i (f i) dJ1_equals_b5fdf_17 rfl rfl (nb_tn (by omega)) (nb_in (by omega) (by omega)) rfl ?_
      refine g_aload_n 19 C dJ1_equals_b5fdf_18 rfl rfl rfl ?_
      refine g_iload_n 20 C dJ1_equals_b5fdf_19 rfl rfl rfl ?_
      refine g_baldc 21 C 1 i (g i) dJ1_equals_b5fdf_20 rfl rfl (nb_tn (by omega)) (nb_in (by omega) (by omega)) rfl ?_
      refine g_icmp_eq 24 26 C dJ1_equals_b5fdf_21 (by decide) rfl (T := some ()) (E := none) (v := ()) (if_pos (hfg i (by omega))) (fun _ => ?_) (fun h => by cases h)
      refine g_iinc 29 C 2 (nb (i + 1)) [(2, .int (nb (i + 1))), (0, .ref v), (1, .ref v2)] dJ1_equals_b5fdf_26 rfl rfl (nb_succ i) (by decide) rfl ?_
      refine g_goto 9 C dJ1_equals_b5fdf_29 (by decide) ?_
      refine g_lv (lv2 := [(0, .ref v), (1, .ref v2), (2, .int (nb (i + 1)))]) [1, 2, 0] rfl ?_
      exact ih (i + 1) (by omega)
  refine g_aload_n 1 C dJ1_equals_b5fdf_0 rfl rfl rfl ?_
  refine g_alen 2 C (v := nb n) 0 1 dJ1_equals_b5fdf_1 rfl rfl rfl rfl ?_
  refine g_aload_n 3 C dJ1_equals_b5fdf_2 rfl rfl rfl ?_
  refine g_alen 4 C (v := nb n) 1 1 dJ1_equals_b5fdf_3 rfl rfl rfl rfl ?_
  refine g_icmp_ne 7 34 C dJ1_equals_b5fdf_4 (by decide) rfl (T := none) (E := some ()) (v := ()) (if_pos rfl) (fun h => by cases h) (fun _ => ?_)
  refine g_iconst 8 C (nb 0) dJ1_equals_b5fdf_7 rfl (by decide) ?_
  refine g_istore_n 9 C [(2, .int (nb 0)), (0, .ref v), (1, .ref v2)] dJ1_equals_b5fdf_8 rfl rfl (by decide) rfl ?_
  refine g_lv (lv2 := [(0, .ref v), (1, .ref v2), (2, .int (nb 0))]) [1, 2, 0] rfl ?_
  exact Kl n 0 (by omega)
set_option maxHeartbeats 4000000 in
set_option maxRecDepth 100000 in
theorem cs_equals (l : Launch) {D : va_G} {Y : Nat → ClassId} {Z : (Nat → Prop) → State → Heap → Prop} (hZ : sg_Zok Z) {jK jV jT : Nat → Nat} (hJ : sg_ZJ Z jK jV jT) {a v n a2 v2 : Nat} {h z h2 z2 : Int32} {f g : Nat → Int32} (hn : n < 100000) (hfg : ∀ i, i < n → f i = g i) : sg_MI l yJ0_equals_9ea2d wsJ0_equals_9ea2d 1 30 D Y Z [.ref a, .ref a2] (ww_S Y a v h z n f ++ ww_S Y a2 v2 h2 z2 n g) 1 (ww_S Y a v h z n f ++ ww_S Y a2 v2 h2 z2 n g) := by
  intro sz
  refine sg_enter (own := RJ0) (maxL := 3) (ret := (some .boolean)) (cc := cJ0_equals_9ea2d) (by decide +kernel) rfl rfl (Nat.le_of_ble_eq_true rfl) hZ ?_
  intro p e s m args below meth c C hr Q hQ hsz
  have hJJ := hJ _ _ _ C.2.2.2.2.2.2.2.2.1
  refine g_lv (lv2 := [(0, .ref a), (1, .ref a2)]) [0, 1] rfl ?_
  refine g_aload_n 1 C dJ0_equals_9ea2d_0 rfl rfl rfl ?_
  refine g_aload_n 2 C dJ0_equals_9ea2d_1 rfl rfl rfl ?_
  refine g_acmp_ne 5 7 C dJ0_equals_9ea2d_2 (by decide) rfl ?_ ?_
  · skip
    refine g_aload_n 8 C dJ0_equals_9ea2d_7 rfl rfl rfl ?_
    refine g_instS 11 C (nm := RJ0) (T := TJ0) (N := 4) (ci := 0) 2 ksJ0_equals_9ea2d_cl rfl rfl dJ0_equals_9ea2d_8 rfl ?_
    refine g_if_eq 14 54 C dJ0_equals_9ea2d_11 (by decide) rfl (T := none) (E := some ()) (v := ()) (if_neg (by decide)) (fun h => by cases h) (fun _ => ?_)
    refine g_aload_n 15 C dJ0_equals_9ea2d_14 rfl rfl rfl ?_
    refine g_castS 18 C (nm := RJ0) (T := TJ0) (N := 4) (ci := 0) 2 ksJ0_equals_9ea2d_cl rfl rfl dJ0_equals_9ea2d_15 rfl ?_
    refine g_astore_n 19 C [(2, .ref a2), (0, .ref a), (1, .ref a2)] dJ0_equals_9ea2d_18 rfl rfl (by decide) rfl ?_
    refine g_getsW 22 C hJJ.1 ksJ0_equals_9ea2d_f38 rfl dJ0_equals_9ea2d_19 rfl ?_
    refine g_if_eq 25 36 C dJ0_equals_9ea2d_22 (by decide) rfl (T := none) (E := some ()) (v := ()) (if_neg (by decide)) (fun h => by cases h) (fun _ => ?_)
    refine g_aload_n 26 C dJ0_equals_9ea2d_25 rfl rfl rfl ?_
    refine g_get 29 C (own := RJ0) (C1 := RJ0) (T := TJ0) 0 1 (.int 0) ksJ0_equals_9ea2d_J0 ksJ0_equals_9ea2d_f15 rfl dJ0_equals_9ea2d_26 rfl rfl rfl (by decide) rfl ?_
    refine g_aload_n 30 C dJ0_equals_9ea2d_29 rfl rfl rfl ?_
    refine g_get 33 C (own := RJ0) (C1 := RJ0) (T := TJ0) 2 1 (.int 0) ksJ0_equals_9ea2d_J0 ksJ0_equals_9ea2d_f15 rfl dJ0_equals_9ea2d_30 rfl rfl rfl (by decide) rfl ?_
    refine g_icmp_ne 36 54 C dJ0_equals_9ea2d_33 (by decide) rfl (T := none) (E := some ()) (v := ()) (if_pos rfl) (fun h => by cases h) (fun _ => ?_)
    refine g_aload_n 37 C dJ0_equals_9ea2d_36 rfl rfl rfl ?_
    refine g_get 40 C (own := RJ0) (C1 := RJ0) (T := TJ0) 0 0 (.ref v) ksJ0_equals_9ea2d_J0 ksJ0_equals_9ea2d_f9 rfl dJ0_equals_9ea2d_37 rfl rfl rfl (by decide) rfl ?_
    refine g_aload_n 41 C dJ0_equals_9ea2d_40 rfl rfl rfl ?_
    refine g_get 44 C (own := RJ0) (C1 := RJ0) (T := TJ0) 2 0 (.ref v2) ksJ0_equals_9ea2d_J0 ksJ0_equals_9ea2d_f9 rfl dJ0_equals_9ea2d_41 rfl rfl rfl (by decide) rfl ?_
    refine g_callSi 47 C (w2 := (ww_S Y a v h z n f ++ ww_S Y a2 v2 h2 z2 n g)) (As := [.ref v, .ref v2]) (st := []) (n0 := 2) [1, 3] [0, 2] [0, 2, 1, 3] (cs_eqB l hZ hJ hn hfg) gJ0_equals_9ea2d_J1_equals_b5fdf ⟨by decide +kernel, by decide +kernel, rfl⟩ rfl ⟨(Nat.le_of_ble_eq_true rfl), (Nat.le_of_ble_eq_true rfl)⟩ ⟨rfl, rfl, rfl, by decide, rfl, rfl⟩ rfl rfl (Nat.le_of_ble_eq_true rfl) ⟨Nat.le_refl _, Nat.le_refl _⟩ dJ0_equals_9ea2d_44 rfl rfl ?_
    refine g_if_eq 50 54 C dJ0_equals_9ea2d_47 (by decide) rfl (T := none) (E := some ()) (v := ()) (if_neg (by decide)) (fun h => by cases h) (fun _ => ?_)
    refine g_iconst 51 C (nb 1) dJ0_equals_9ea2d_50 rfl (by decide) ?_
    refine g_goto 55 C dJ0_equals_9ea2d_51 (by decide) ?_
    exact g_iret C hr rfl hQ hsz dJ0_equals_9ea2d_55 (by decide) rfl
  · skip
    refine g_iconst 6 C (nb 1) dJ0_equals_9ea2d_5 rfl (by decide) ?_
    exact g_iret C hr rfl hQ hsz dJ0_equals_9ea2d_6 (by decide) rfl
