/-! STRINGS: the JDK's methods, by contract -/
theorem ksJ0_coder_7d493_f38 : Cond.fieldLink RJ0 38 "java/lang/String" "COMPACT_STRINGS" "Z" ∈ wsJ0_coder_7d493 := by decide +kernel
theorem ksJ0_coder_7d493_J0 : ∀ w ∈ u_ws RJ0 TJ0 4, w ∈ wsJ0_coder_7d493 := by decide +kernel
theorem ksJ0_coder_7d493_f15 : Cond.fieldLink RJ0 15 "java/lang/String" "coder" "B" ∈ wsJ0_coder_7d493 := by decide +kernel
set_option maxHeartbeats 4000000 in
set_option maxRecDepth 100000 in
theorem cs_coder (l : Launch) {D : va_G} {Y : Nat → ClassId} {Z : (Nat → Prop) → State → Heap → Prop} (hZ : sg_Zok Z) {jK jV jT : Nat → Nat} (hJ : sg_ZJ Z jK jV jT) {a v n : Nat} {h z : Int32} {f : Nat → Int32} : sg_MI l yJ0_coder_7d493 wsJ0_coder_7d493 0 0 D Y Z [.ref a] (ww_S Y a v h z n f) 0 (ww_S Y a v h z n f) := by
  intro sz
  refine sg_enter (own := RJ0) (maxL := 1) (ret := (some .byte)) (cc := cJ0_coder_7d493) (by decide +kernel) rfl rfl (Nat.le_of_ble_eq_true rfl) hZ ?_
  intro p e s m args below meth c C hr Q hQ hsz
  have hJJ := hJ _ _ _ C.2.2.2.2.2.2.2.2.1
  refine g_lv (lv2 := [(0, .ref a)]) [0] rfl ?_
  refine g_getsW 3 C hJJ.1 ksJ0_coder_7d493_f38 rfl dJ0_coder_7d493_0 rfl ?_
  refine g_if_eq 6 13 C dJ0_coder_7d493_3 (by decide) rfl (T := none) (E := some ()) (v := ()) (if_neg (by decide)) (fun h => by cases h) (fun _ => ?_)
  refine g_aload_n 7 C dJ0_coder_7d493_6 rfl rfl rfl ?_
  refine g_get 10 C (own := RJ0) (C1 := RJ0) (T := TJ0) 0 1 (.int 0) ksJ0_coder_7d493_J0 ksJ0_coder_7d493_f15 rfl dJ0_coder_7d493_7 rfl rfl rfl (by decide) rfl ?_
  refine g_goto 14 C dJ0_coder_7d493_10 (by decide) ?_
  exact g_iret C hr rfl hQ hsz dJ0_coder_7d493_14 rfl rfl
theorem ksJ0_length_8abf5_J0 : ∀ w ∈ u_ws RJ0 TJ0 4, w ∈ wsJ0_length_8abf5 := by decide +kernel
theorem ksJ0_length_8abf5_f9 : Cond.fieldLink RJ0 9 "java/lang/String" "value" "[B" ∈ wsJ0_length_8abf5 := by decide +kernel
set_option maxHeartbeats 4000000 in
set_option maxRecDepth 100000 in
theorem cs_length (l : Launch) {D : va_G} {Y : Nat → ClassId} {Z : (Nat → Prop) → State → Heap → Prop} (hZ : sg_Zok Z) {jK jV jT : Nat → Nat} (hJ : sg_ZJ Z jK jV jT) {a v n : Nat} {h z : Int32} {f : Nat → Int32} : sg_MI l yJ0_length_8abf5 wsJ0_length_8abf5 1 20 D Y Z [.ref a] (ww_S Y a v h z n f) (nb n) (ww_S Y a v h z n f) := by
  intro sz
  refine sg_enter (own := RJ0) (maxL := 1) (ret := (some .int)) (cc := cJ0_length_8abf5) (by decide +kernel) rfl rfl (Nat.le_of_ble_eq_true rfl) hZ ?_
  intro p e s m args below meth c C hr Q hQ hsz
  refine g_lv (lv2 := [(0, .ref a)]) [0] rfl ?_
  refine g_aload_n 1 C dJ0_length_8abf5_0 rfl rfl rfl ?_
  refine g_get 4 C (own := RJ0) (C1 := RJ0) (T := TJ0) 0 0 (.ref v) ksJ0_length_8abf5_J0 ksJ0_length_8abf5_f9 rfl dJ0_length_8abf5_1 rfl rfl rfl (by decide) rfl ?_
  refine g_alen 5 C (v := nb n) 1 1 dJ0_length_8abf5_4 rfl rfl rfl rfl ?_
  refine g_aload_n 6 C dJ0_length_8abf5_5 rfl rfl rfl ?_
  refine g_callVi 9 C (w2 := (ww_S Y a v h z n f)) (As := []) (st := [.int (nb n)]) (n0 := 0) (ci := 0) (q0 := 0) [0, 1] [] [0, 1] (cs_coder l hZ hJ) gJ0_length_8abf5_J0_coder_7d493 ⟨rfl, by decide +kernel, by decide +kernel, rfl⟩ rfl ⟨(Nat.le_of_ble_eq_true rfl), (Nat.le_of_ble_eq_true rfl)⟩ rfl rfl ⟨rfl, rfl, rfl, by decide, rfl, rfl⟩ rfl rfl (Nat.le_of_ble_eq_true rfl) ⟨Nat.le_refl _, Nat.le_refl _⟩ dJ0_length_8abf5_6 rfl rfl ?_
  refine g_ishr 10 C dJ0_length_8abf5_9 rfl ?_
  exact g_iret C hr rfl hQ hsz dJ0_length_8abf5_10 (sb_sh0 _) rfl
theorem sg_pm4 (a b c d : Nat × va_E) : [a, b, c, d].Perm [c, d, b, a] := by
  have h : [0, 1, 2, 3].Perm [2, 3, 1, 0] := by decide
  exact h.map (fun i => match i with | 0 => a | 1 => b | 2 => c | _ => d)
theorem sg_pm4b (a b c d : Nat × va_E) : [a, c, d, b].Perm [a, b, c, d] := by
  have h : [0, 2, 3, 1].Perm [0, 1, 2, 3] := by decide
  exact h.map (fun i => match i with | 0 => a | 1 => b | 2 => c | _ => d)
theorem cut_put (Y : Nat → ClassId) (ad : Nat → Nat) (κ : sg_S) (a v : Nat) (h z : Int32) (n : Nat) (f : Nat → Int32) (d : Nat) : sg_cutP (ww_J4 Y ad κ ++ ww_S Y a v h z n f) (ww_S Y a v h z n f ++ [(ad 1, .inl (Y 1, (κ 0 0).toNatClampNeg, .inl (κ 1)))]) (ww_S Y a v h z n f ++ [(ad 1, .inl (Y 1, (κ 0 0).toNatClampNeg, .inl (va_cpy f (κ 1) 0 d n)))]) (ww_J4 Y ad (sg_ur κ 1 (va_cpy f (κ 1) 0 d n)) ++ ww_S Y a v h z n f) :=
  ⟨[(ad 0, .inr (1, [.ref (ad 1), .int (κ 0 1), .int (κ 0 2), .int (κ 0 3)]))], sg_pm4 _ _ _ _, sg_pm4b _ _ _ _⟩
theorem cut_putK (Y : Nat → ClassId) (ad : Nat → Nat) (κ : sg_S) (f : Nat → Int32) (d n : Nat) : sg_cutP (ww_J4 Y ad κ) [(ad 1, .inl (Y 1, (κ 0 0).toNatClampNeg, .inl (κ 1)))] [(ad 1, .inl (Y 1, (κ 0 0).toNatClampNeg, .inl (va_cpy f (κ 1) 0 d n)))] (ww_J4 Y ad (sg_ur κ 1 (va_cpy f (κ 1) 0 d n))) :=
  ⟨[(ad 0, .inr (1, [.ref (ad 1), .int (κ 0 1), .int (κ 0 2), .int (κ 0 3)]))], List.Perm.swap _ _ _, List.Perm.refl _⟩
theorem ksJ5_inflateIfNeededFor_a7421_f18 : Cond.fieldLink RJ5 18 "java/lang/String" "COMPACT_STRINGS" "Z" ∈ wsJ5_inflateIfNeededFor_a7421 := by decide +kernel
theorem ksJ5_inflateIfNeededFor_a7421_J4 : ∀ w ∈ u_ws RJ4 TJ4 4, w ∈ wsJ5_inflateIfNeededFor_a7421 := by decide +kernel
theorem ksJ5_inflateIfNeededFor_a7421_f22 : Cond.fieldLink RJ5 22 "java/lang/AbstractStringBuilder" "coder" "B" ∈ wsJ5_inflateIfNeededFor_a7421 := by decide +kernel
set_option maxHeartbeats 4000000 in
set_option maxRecDepth 100000 in
theorem cs_inflateW (l : Launch) {D : va_G} {Y : Nat → ClassId} {Z : (Nat → Prop) → State → Heap → Prop} (hZ : sg_Zok Z) {jK jV jT : Nat → Nat} (hJ : sg_ZJ Z jK jV jT) {a v n : Nat} {h z : Int32} {f : Nat → Int32} {ad : Nat → Nat} {κ : sg_S} (hc : κ 0 1 = 0) : sg_MV l yJ5_inflateIfNeededFor_a7421 wsJ5_inflateIfNeededFor_a7421 1 20 D Y Z [.ref (ad 0), .ref a] (ww_J4 Y ad κ ++ (ww_S Y a v h z n f)) (ww_J4 Y ad κ ++ (ww_S Y a v h z n f)) := by
  intro sz
  refine sg_enter (own := RJ5) (maxL := 2) (ret := none) (cc := cJ5_inflateIfNeededFor_a7421) (by decide +kernel) rfl rfl (Nat.le_of_ble_eq_true rfl) hZ ?_
  intro p e s m args below meth c C hr Q hQ hsz
  have hJJ := hJ _ _ _ C.2.2.2.2.2.2.2.2.1
  refine g_lv (lv2 := [(0, .ref (ad 0)), (1, .ref a)]) [0, 1] rfl ?_
  refine g_getsW 3 C hJJ.1 ksJ5_inflateIfNeededFor_a7421_f18 rfl dJ5_inflateIfNeededFor_a7421_0 rfl ?_
  refine g_if_eq 6 21 C dJ5_inflateIfNeededFor_a7421_3 (by decide) rfl (T := none) (E := some ()) (v := ()) (if_neg (by decide)) (fun h => by cases h) (fun _ => ?_)
  refine g_aload_n 7 C dJ5_inflateIfNeededFor_a7421_6 rfl rfl rfl ?_
  refine g_get 10 C (own := RJ5) (C1 := RJ4) (T := TJ4) 0 1 (.int (κ 0 1)) ksJ5_inflateIfNeededFor_a7421_J4 ksJ5_inflateIfNeededFor_a7421_f22 rfl dJ5_inflateIfNeededFor_a7421_7 rfl rfl rfl (by decide) rfl ?_
  refine g_aload_n 11 C dJ5_inflateIfNeededFor_a7421_10 rfl rfl rfl ?_
  refine g_callVi 14 C (w2 := (ww_J4 Y ad κ ++ (ww_S Y a v h z n f))) (As := []) (st := [.int (κ 0 1)]) (n0 := 0) (ci := 0) (q0 := 2) [2, 3] [0, 1] [0, 1, 2, 3] (cs_coder l hZ hJ) gJ5_inflateIfNeededFor_a7421_J0_coder_7d493 ⟨rfl, by decide +kernel, by decide +kernel, rfl⟩ rfl ⟨(Nat.le_of_ble_eq_true rfl), (Nat.le_of_ble_eq_true rfl)⟩ rfl rfl ⟨rfl, rfl, rfl, by decide, rfl, rfl⟩ rfl rfl (Nat.le_of_ble_eq_true rfl) ⟨Nat.le_refl _, Nat.le_refl _⟩ dJ5_inflateIfNeededFor_a7421_11 rfl rfl ?_
  refine g_icmp_eq 17 21 C dJ5_inflateIfNeededFor_a7421_14 (by decide) rfl (T := some ()) (E := none) (v := ()) (if_pos hc) (fun _ => ?_) (fun h => by cases h)
  exact g_vret C hr hQ hsz dJ5_inflateIfNeededFor_a7421_21 rfl
set_option maxHeartbeats 4000000 in
set_option maxRecDepth 100000 in
theorem cs_inflateK (l : Launch) {D : va_G} {Y : Nat → ClassId} {Z : (Nat → Prop) → State → Heap → Prop} (hZ : sg_Zok Z) {jK jV jT : Nat → Nat} (hJ : sg_ZJ Z jK jV jT) {k : Nat} (hk : k < 15) {ad : Nat → Nat} {κ : sg_S} (hc : κ 0 1 = 0) : sg_MV l yJ5_inflateIfNeededFor_a7421 wsJ5_inflateIfNeededFor_a7421 1 20 D Y Z [.ref (ad 0), .ref (jK k)] (ww_J4 Y ad κ) (ww_J4 Y ad κ) := by
  intro sz
  refine sg_enter (own := RJ5) (maxL := 2) (ret := none) (cc := cJ5_inflateIfNeededFor_a7421) (by decide +kernel) rfl rfl (Nat.le_of_ble_eq_true rfl) hZ ?_
  intro p e s m args below meth c C hr Q hQ hsz
  have hJJ := hJ _ _ _ C.2.2.2.2.2.2.2.2.1
  refine g_lv (lv2 := [(0, .ref (ad 0)), (1, .ref (jK k))]) [0, 1] rfl ?_
  refine g_getsW 3 C hJJ.1 ksJ5_inflateIfNeededFor_a7421_f18 rfl dJ5_inflateIfNeededFor_a7421_0 rfl ?_
  refine g_if_eq 6 21 C dJ5_inflateIfNeededFor_a7421_3 (by decide) rfl (T := none) (E := some ()) (v := ()) (if_neg (by decide)) (fun h => by cases h) (fun _ => ?_)
  refine g_aload_n 7 C dJ5_inflateIfNeededFor_a7421_6 rfl rfl rfl ?_
  refine g_get 10 C (own := RJ5) (C1 := RJ4) (T := TJ4) 0 1 (.int (κ 0 1)) ksJ5_inflateIfNeededFor_a7421_J4 ksJ5_inflateIfNeededFor_a7421_f22 rfl dJ5_inflateIfNeededFor_a7421_7 rfl rfl rfl (by decide) rfl ?_
  refine g_aload_n 11 C dJ5_inflateIfNeededFor_a7421_10 rfl rfl rfl ?_
  refine g_callKi 14 C (w2 := (ww_J4 Y ad κ)) (As := []) (st := [.int (κ 0 1)]) (n0 := 0) (c_J0_coder_7d493 l hZ hJ (hk := hk) (ad := ad) (σ := κ) rfl) gJ5_inflateIfNeededFor_a7421_J0_coder_7d493 ⟨rfl, by decide +kernel, by decide +kernel, rfl⟩ rfl ⟨(Nat.le_of_ble_eq_true rfl), (Nat.le_of_ble_eq_true rfl)⟩ (fun H locs hS => vk_recv hJJ.2.2.1 hk hS) sg_cutNone rfl (Nat.le_of_ble_eq_true rfl) ⟨Nat.le_refl _, Nat.le_refl _⟩ dJ5_inflateIfNeededFor_a7421_11 rfl rfl ?_
  refine g_icmp_eq 17 21 C dJ5_inflateIfNeededFor_a7421_14 (by decide) rfl (T := some ()) (E := none) (v := ()) (if_pos hc) (fun _ => ?_) (fun h => by cases h)
  exact g_vret C hr hQ hsz dJ5_inflateIfNeededFor_a7421_21 rfl
theorem ksJ0_getBytes_840e7_J0 : ∀ w ∈ u_ws RJ0 TJ0 4, w ∈ wsJ0_getBytes_840e7 := by decide +kernel
theorem ksJ0_getBytes_840e7_f9 : Cond.fieldLink RJ0 9 "java/lang/String" "value" "[B" ∈ wsJ0_getBytes_840e7 := by decide +kernel
theorem ksJ0_getBytes_840e7_ml : Cond.methodLink RJ0 212 arraycopyName ∈ wsJ0_getBytes_840e7 := by decide +kernel
theorem ksJ0_getBytes_840e7_nat : Cond.native arraycopyName ∈ wsJ0_getBytes_840e7 := by decide +kernel
theorem ksJ0_getBytes_840e7_sta : Cond.static arraycopyName ∈ wsJ0_getBytes_840e7 := by decide +kernel
theorem ksJ0_getBytes_840e7_ini : Cond.initialized "java/lang/System" ∈ wsJ0_getBytes_840e7 := by decide +kernel
set_option maxHeartbeats 4000000 in
set_option maxRecDepth 100000 in
theorem cs_getBytesW (l : Launch) {D : va_G} {Y : Nat → ClassId} {Z : (Nat → Prop) → State → Heap → Prop} (hZ : sg_Zok Z) {jK jV jT : Nat → Nat} (hJ : sg_ZJ Z jK jV jT) {a v n : Nat} {h z : Int32} {f : Nat → Int32} {b d r : Nat} {g : Nat → Int32} (hd : d < 100000) (hn : n < 100000) (hr0 : d + n ≤ r) (hf : ∀ i, i < n → fits .byte (.int (f i)) = true) : sg_MV l yJ0_getBytes_840e7 wsJ0_getBytes_840e7 1 24 D Y Z [.ref a, .ref b, .int (nb d), .int 0] ((ww_S Y a v h z n f) ++ [(b, .inl (Y 1, r, .inl g))]) ((ww_S Y a v h z n f) ++ [(b, .inl (Y 1, r, .inl (va_cpy f g 0 d n)))]) := by
  intro sz
  refine sg_enter (own := RJ0) (maxL := 4) (ret := none) (cc := cJ0_getBytes_840e7) (by decide +kernel) rfl rfl (Nat.le_of_ble_eq_true rfl) hZ ?_
  intro p e s m args below meth c C hr Q hQ hsz
  have hJJ := hJ _ _ _ C.2.2.2.2.2.2.2.2.1
  refine g_lv (lv2 := [(0, .ref a), (1, .ref b), (2, .int (nb d)), (3, .int 0)]) [0, 1, 2, 3] rfl ?_
  refine g_aload_n 1 C dJ0_getBytes_840e7_0 rfl rfl rfl ?_
  refine g_callVi 4 C (w2 := ((ww_S Y a v h z n f) ++ [(b, .inl (Y 1, r, .inl g))])) (As := []) (st := []) (n0 := 0) (ci := 0) (q0 := 0) [0, 1] [2] [1, 2, 0] (cs_coder l hZ hJ) gJ0_getBytes_840e7_J0_coder_7d493 ⟨rfl, by decide +kernel, by decide +kernel, rfl⟩ rfl ⟨(Nat.le_of_ble_eq_true rfl), (Nat.le_of_ble_eq_true rfl)⟩ rfl rfl ⟨rfl, rfl, rfl, by decide, rfl, rfl⟩ rfl rfl (Nat.le_of_ble_eq_true rfl) ⟨Nat.le_refl _, Nat.le_refl _⟩ dJ0_getBytes_840e7_1 rfl rfl ?_
  refine g_iload_n 5 C dJ0_getBytes_840e7_4 rfl rfl rfl ?_
  refine g_icmp_ne 8 28 C dJ0_getBytes_840e7_5 (by decide) rfl (T := none) (E := some ()) (v := ()) (if_pos rfl) (fun h => by cases h) (fun _ => ?_)
  refine g_aload_n 9 C dJ0_getBytes_840e7_8 rfl rfl rfl ?_
  refine g_get 12 C (own := RJ0) (C1 := RJ0) (T := TJ0) 0 0 (.ref v) ksJ0_getBytes_840e7_J0 ksJ0_getBytes_840e7_f9 rfl dJ0_getBytes_840e7_9 rfl rfl rfl (by decide) rfl ?_
  refine g_iconst 13 C (nb 0) dJ0_getBytes_840e7_12 rfl (by decide) ?_
  refine g_aload_n 14 C dJ0_getBytes_840e7_13 rfl rfl rfl ?_
  refine g_iload_n 15 C dJ0_getBytes_840e7_14 rfl rfl rfl ?_
  refine g_iload_n 16 C dJ0_getBytes_840e7_15 rfl rfl rfl ?_
  refine g_ishl 17 C dJ0_getBytes_840e7_16 rfl ?_
  refine g_top (v := (nb d)) (sb_sl0 _).symm ?_
  refine g_aload_n 18 C dJ0_getBytes_840e7_17 rfl rfl rfl ?_
  refine g_get 21 C (own := RJ0) (C1 := RJ0) (T := TJ0) 0 0 (.ref v) ksJ0_getBytes_840e7_J0 ksJ0_getBytes_840e7_f9 rfl dJ0_getBytes_840e7_18 rfl rfl rfl (by decide) rfl ?_
  refine g_alen 22 C (v := nb n) 1 1 dJ0_getBytes_840e7_21 rfl rfl rfl rfl ?_
  refine g_copyb 25 C (w2 := ((ww_S Y a v h z n f) ++ [(b, .inl (Y 1, r, .inl (va_cpy f g 0 d n)))])) (f := f) (g := g) (n0 := n) (n1 := r) 1 2 ksJ0_getBytes_840e7_ml ksJ0_getBytes_840e7_nat ksJ0_getBytes_840e7_sta ksJ0_getBytes_840e7_ini rfl rfl (by decide) (nb_nneg (by omega)) (nb_nneg (by omega)) (by rw [nb_tn (a := n) (by omega)]; show 0 + _ ≤ _; omega) (by rw [nb_tn (a := d) (by omega), nb_tn (a := n) (by omega)]; exact hr0) (fun i hi => by rw [nb_tn (a := n) (by omega)] at hi; show fits .byte (.int (f (0 + i))) = true; rw [Nat.zero_add]; exact hf i hi) (Nat.le_of_ble_eq_true rfl) (by decide) dJ0_getBytes_840e7_22 rfl (by rw [nb_tn (a := d) (by omega), nb_tn (a := n) (by omega)]; rfl) ?_
  refine g_goto 43 C dJ0_getBytes_840e7_25 (by decide) ?_
  exact g_vret C hr hQ hsz dJ0_getBytes_840e7_43 rfl
set_option maxHeartbeats 4000000 in
set_option maxRecDepth 100000 in
theorem cs_getBytesK (l : Launch) {D : va_G} {Y : Nat → ClassId} {Z : (Nat → Prop) → State → Heap → Prop} (hZ : sg_Zok Z) {jK jV jT : Nat → Nat} (hJ : sg_ZJ Z jK jV jT) {k : Nat} (hk : k < 15) {b d r : Nat} {g : Nat → Int32} (hd : d < 100000) (hn : (sg_len.getD k 0) < 100000) (hr0 : d + (sg_len.getD k 0) ≤ r) (hf : ∀ i, i < (sg_len.getD k 0) → fits .byte (.int ((fun j => (sg_byt.getD k []).getD j 0) i)) = true) : sg_MV l yJ0_getBytes_840e7 wsJ0_getBytes_840e7 1 24 D Y Z [.ref (jK k), .ref b, .int (nb d), .int 0] [(b, .inl (Y 1, r, .inl g))] [(b, .inl (Y 1, r, .inl (va_cpy (fun j => (sg_byt.getD k []).getD j 0) g 0 d (sg_len.getD k 0))))] := by
  intro sz
  refine sg_enter (own := RJ0) (maxL := 4) (ret := none) (cc := cJ0_getBytes_840e7) (by decide +kernel) rfl rfl (Nat.le_of_ble_eq_true rfl) hZ ?_
  intro p e s m args below meth c C hr Q hQ hsz
  have hJJ := hJ _ _ _ C.2.2.2.2.2.2.2.2.1
  refine g_lv (lv2 := [(0, .ref (jK k)), (1, .ref b), (2, .int (nb d)), (3, .int 0)]) [0, 1, 2, 3] rfl ?_
  refine g_aload_n 1 C dJ0_getBytes_840e7_0 rfl rfl rfl ?_
  refine g_callKi 4 C (w2 := [(b, .inl (Y 1, r, .inl g))]) (As := []) (st := []) (n0 := 0) (c_J0_coder_7d493 l hZ hJ (hk := hk) (ad := fun _ => 0) (σ := fun _ _ => 0) rfl) gJ0_getBytes_840e7_J0_coder_7d493 ⟨rfl, by decide +kernel, by decide +kernel, rfl⟩ rfl ⟨(Nat.le_of_ble_eq_true rfl), (Nat.le_of_ble_eq_true rfl)⟩ (fun H locs hS => vk_recv hJJ.2.2.1 hk hS) sg_cutNone rfl (Nat.le_of_ble_eq_true rfl) ⟨Nat.le_refl _, Nat.le_refl _⟩ dJ0_getBytes_840e7_1 rfl rfl ?_
  refine g_iload_n 5 C dJ0_getBytes_840e7_4 rfl rfl rfl ?_
  refine g_icmp_ne 8 28 C dJ0_getBytes_840e7_5 (by decide) rfl (T := none) (E := some ()) (v := ()) (if_pos rfl) (fun h => by cases h) (fun _ => ?_)
  refine g_aload_n 9 C dJ0_getBytes_840e7_8 rfl rfl rfl ?_
  refine g_gets0 12 C (hJJ.2.2.1.1 k hk).2.2.1 ksJ0_getBytes_840e7_f9 rfl dJ0_getBytes_840e7_9 rfl ?_
  refine g_iconst 13 C (nb 0) dJ0_getBytes_840e7_12 rfl (by decide) ?_
  refine g_aload_n 14 C dJ0_getBytes_840e7_13 rfl rfl rfl ?_
  refine g_iload_n 15 C dJ0_getBytes_840e7_14 rfl rfl rfl ?_
  refine g_iload_n 16 C dJ0_getBytes_840e7_15 rfl rfl rfl ?_
  refine g_ishl 17 C dJ0_getBytes_840e7_16 rfl ?_
  refine g_top (v := (nb d)) (sb_sl0 _).symm ?_
  refine g_aload_n 18 C dJ0_getBytes_840e7_17 rfl rfl rfl ?_
  refine g_gets0 21 C (hJJ.2.2.1.1 k hk).2.2.1 ksJ0_getBytes_840e7_f9 rfl dJ0_getBytes_840e7_18 rfl ?_
  refine g_tblen 22 C (nb (sg_len.getD k 0)) (hJJ.2.2.1.1 k hk).2.2.2 rfl dJ0_getBytes_840e7_21 rfl ?_
  refine g_copyt 25 C (w2 := [(b, .inl (Y 1, r, .inl (va_cpy (fun j => (sg_byt.getD k []).getD j 0) g 0 d (sg_len.getD k 0))))]) (f := (fun j => (sg_byt.getD k []).getD j 0)) (g := g) (n0 := (sg_len.getD k 0)) (n1 := r) 0 ksJ0_getBytes_840e7_ml ksJ0_getBytes_840e7_nat ksJ0_getBytes_840e7_sta ksJ0_getBytes_840e7_ini (hJJ.2.2.1.1 k hk).2.2.2 rfl (by decide) (nb_nneg (by omega)) (nb_nneg (by omega)) (by rw [nb_tn (a := (sg_len.getD k 0)) (by omega)]; show 0 + _ ≤ _; omega) (by rw [nb_tn (a := d) (by omega), nb_tn (a := (sg_len.getD k 0)) (by omega)]; exact hr0) (fun i hi => by rw [nb_tn (a := (sg_len.getD k 0)) (by omega)] at hi; show fits .byte (.int ((fun j => (sg_byt.getD k []).getD j 0) (0 + i))) = true; rw [Nat.zero_add]; exact hf i hi) (Nat.le_of_ble_eq_true rfl) (by decide) dJ0_getBytes_840e7_22 rfl (by rw [nb_tn (a := d) (by omega), nb_tn (a := (sg_len.getD k 0)) (by omega)]; rfl) ?_
  refine g_goto 43 C dJ0_getBytes_840e7_25 (by decide) ?_
  exact g_vret C hr hQ hsz dJ0_getBytes_840e7_43 rfl
theorem ksJ5_putStringAt_47b60_J4 : ∀ w ∈ u_ws RJ4 TJ4 4, w ∈ wsJ5_putStringAt_47b60 := by decide +kernel
theorem ksJ5_putStringAt_47b60_f15 : Cond.fieldLink RJ5 15 "java/lang/AbstractStringBuilder" "value" "[B" ∈ wsJ5_putStringAt_47b60 := by decide +kernel
theorem ksJ5_putStringAt_47b60_f22 : Cond.fieldLink RJ5 22 "java/lang/AbstractStringBuilder" "coder" "B" ∈ wsJ5_putStringAt_47b60 := by decide +kernel
set_option maxHeartbeats 4000000 in
set_option maxRecDepth 100000 in
theorem cs_putStrW (l : Launch) {D : va_G} {Y : Nat → ClassId} {Z : (Nat → Prop) → State → Heap → Prop} (hZ : sg_Zok Z) {jK jV jT : Nat → Nat} (hJ : sg_ZJ Z jK jV jT) {a v n : Nat} {h z : Int32} {f : Nat → Int32} {ad : Nat → Nat} {κ : sg_S} {d : Nat} (hc : κ 0 1 = 0) (hd : d < 100000) (hn : n < 100000) (hr0 : d + n ≤ (κ 0 0).toNatClampNeg) (hf : ∀ i, i < n → fits .byte (.int (f i)) = true) : sg_MV l yJ5_putStringAt_47b60 wsJ5_putStringAt_47b60 2 47 D Y Z [.ref (ad 0), .int (nb d), .ref a] (ww_J4 Y ad κ ++ (ww_S Y a v h z n f)) (ww_J4 Y ad (sg_ur κ 1 (va_cpy f (κ 1) 0 d n)) ++ (ww_S Y a v h z n f)) := by
  intro sz
  refine sg_enter (own := RJ5) (maxL := 3) (ret := none) (cc := cJ5_putStringAt_47b60) (by decide +kernel) rfl rfl (Nat.le_of_ble_eq_true rfl) hZ ?_
  intro p e s m args below meth c C hr Q hQ hsz
  have hJJ := hJ _ _ _ C.2.2.2.2.2.2.2.2.1
  refine g_lv (lv2 := [(0, .ref (ad 0)), (1, .int (nb d)), (2, .ref a)]) [0, 1, 2] rfl ?_
  refine g_aload_n 1 C dJ5_putStringAt_47b60_0 rfl rfl rfl ?_
  refine g_aload_n 2 C dJ5_putStringAt_47b60_1 rfl rfl rfl ?_
  refine g_callUv 5 C (w2 := (ww_J4 Y ad κ ++ (ww_S Y a v h z n f))) (As := [.ref a]) (st := []) (n0 := 1) (C2 := RJ4) (ci := 1) (q0 := 0) (cs_inflateW l hZ hJ (ad := ad) hc) gJ5_putStringAt_47b60_J5_inflateIfNeededFor_a7421_u397J4 rfl ⟨by decide +kernel, by decide +kernel, rfl⟩ rfl ⟨(Nat.le_of_ble_eq_true rfl), (Nat.le_of_ble_eq_true rfl)⟩ rfl rfl sg_cutAll rfl (Nat.le_of_ble_eq_true rfl) ⟨Nat.le_refl _, Nat.le_refl _⟩ dJ5_putStringAt_47b60_2 rfl rfl ?_
  refine g_aload_n 6 C dJ5_putStringAt_47b60_5 rfl rfl rfl ?_
  refine g_aload_n 7 C dJ5_putStringAt_47b60_6 rfl rfl rfl ?_
  refine g_get 10 C (own := RJ5) (C1 := RJ4) (T := TJ4) 0 0 (.ref (ad 1)) ksJ5_putStringAt_47b60_J4 ksJ5_putStringAt_47b60_f15 rfl dJ5_putStringAt_47b60_7 rfl rfl rfl (by decide) rfl ?_
  refine g_iload_n 11 C dJ5_putStringAt_47b60_10 rfl rfl rfl ?_
  refine g_aload_n 12 C dJ5_putStringAt_47b60_11 rfl rfl rfl ?_
  refine g_get 15 C (own := RJ5) (C1 := RJ4) (T := TJ4) 0 1 (.int (κ 0 1)) ksJ5_putStringAt_47b60_J4 ksJ5_putStringAt_47b60_f22 rfl dJ5_putStringAt_47b60_12 rfl rfl rfl (by decide) rfl ?_
  refine g_top (v := 0) hc.symm ?_
  refine g_callVvP 18 C (w2 := (ww_J4 Y ad (sg_ur κ 1 (va_cpy f (κ 1) 0 d n)) ++ (ww_S Y a v h z n f))) (As := [.ref (ad 1), .int (nb d), .int 0]) (st := []) (n0 := 3) (ci := 0) (q0 := 2) (cs_getBytesW l hZ hJ (b := ad 1) (r := (κ 0 0).toNatClampNeg) (g := κ 1) hd hn hr0 hf) gJ5_putStringAt_47b60_J0_getBytes_840e7 ⟨rfl, by decide +kernel, by decide +kernel, rfl⟩ rfl ⟨(Nat.le_of_ble_eq_true rfl), (Nat.le_of_ble_eq_true rfl)⟩ rfl rfl (cut_put Y ad κ a v h z n f d) rfl (Nat.le_of_ble_eq_true rfl) ⟨Nat.le_refl _, Nat.le_refl _⟩ dJ5_putStringAt_47b60_15 rfl rfl ?_
  exact g_vret C hr hQ hsz dJ5_putStringAt_47b60_18 rfl
set_option maxHeartbeats 4000000 in
set_option maxRecDepth 100000 in
theorem cs_putStrK (l : Launch) {D : va_G} {Y : Nat → ClassId} {Z : (Nat → Prop) → State → Heap → Prop} (hZ : sg_Zok Z) {jK jV jT : Nat → Nat} (hJ : sg_ZJ Z jK jV jT) {k : Nat} (hk : k < 15) {ad : Nat → Nat} {κ : sg_S} {d : Nat} (hc : κ 0 1 = 0) (hd : d < 100000) (hn : (sg_len.getD k 0) < 100000) (hr0 : d + (sg_len.getD k 0) ≤ (κ 0 0).toNatClampNeg) (hf : ∀ i, i < (sg_len.getD k 0) → fits .byte (.int ((fun j => (sg_byt.getD k []).getD j 0) i)) = true) : sg_MV l yJ5_putStringAt_47b60 wsJ5_putStringAt_47b60 2 47 D Y Z [.ref (ad 0), .int (nb d), .ref (jK k)] (ww_J4 Y ad κ) (ww_J4 Y ad (sg_ur κ 1 (va_cpy (fun j => (sg_byt.getD k []).getD j 0) (κ 1) 0 d (sg_len.getD k 0)))) := by
  intro sz
  refine sg_enter (own := RJ5) (maxL := 3) (ret := none) (cc := cJ5_putStringAt_47b60) (by decide +kernel) rfl rfl (Nat.le_of_ble_eq_true rfl) hZ ?_
  intro p e s m args below meth c C hr Q hQ hsz
  have hJJ := hJ _ _ _ C.2.2.2.2.2.2.2.2.1
  refine g_lv (lv2 := [(0, .ref (ad 0)), (1, .int (nb d)), (2, .ref (jK k))]) [0, 1, 2] rfl ?_
  refine g_aload_n 1 C dJ5_putStringAt_47b60_0 rfl rfl rfl ?_
  refine g_aload_n 2 C dJ5_putStringAt_47b60_1 rfl rfl rfl ?_
  refine g_callUv 5 C (w2 := (ww_J4 Y ad κ)) (As := [.ref (jK k)]) (st := []) (n0 := 1) (C2 := RJ4) (ci := 1) (q0 := 0) (cs_inflateK l hZ hJ (hk := hk) (ad := ad) hc) gJ5_putStringAt_47b60_J5_inflateIfNeededFor_a7421_u397J4 rfl ⟨by decide +kernel, by decide +kernel, rfl⟩ rfl ⟨(Nat.le_of_ble_eq_true rfl), (Nat.le_of_ble_eq_true rfl)⟩ rfl rfl sg_cutAll rfl (Nat.le_of_ble_eq_true rfl) ⟨Nat.le_refl _, Nat.le_refl _⟩ dJ5_putStringAt_47b60_2 rfl rfl ?_
  refine g_aload_n 6 C dJ5_putStringAt_47b60_5 rfl rfl rfl ?_
  refine g_aload_n 7 C dJ5_putStringAt_47b60_6 rfl rfl rfl ?_
  refine g_get 10 C (own := RJ5) (C1 := RJ4) (T := TJ4) 0 0 (.ref (ad 1)) ksJ5_putStringAt_47b60_J4 ksJ5_putStringAt_47b60_f15 rfl dJ5_putStringAt_47b60_7 rfl rfl rfl (by decide) rfl ?_
  refine g_iload_n 11 C dJ5_putStringAt_47b60_10 rfl rfl rfl ?_
  refine g_aload_n 12 C dJ5_putStringAt_47b60_11 rfl rfl rfl ?_
  refine g_get 15 C (own := RJ5) (C1 := RJ4) (T := TJ4) 0 1 (.int (κ 0 1)) ksJ5_putStringAt_47b60_J4 ksJ5_putStringAt_47b60_f22 rfl dJ5_putStringAt_47b60_12 rfl rfl rfl (by decide) rfl ?_
  refine g_top (v := 0) hc.symm ?_
  refine g_callKv 18 C (w2 := (ww_J4 Y ad (sg_ur κ 1 (va_cpy (fun j => (sg_byt.getD k []).getD j 0) (κ 1) 0 d (sg_len.getD k 0))))) (As := [.ref (ad 1), .int (nb d), .int 0]) (st := []) (n0 := 3) (cs_getBytesK l hZ hJ (hk := hk) (b := ad 1) (r := (κ 0 0).toNatClampNeg) (g := κ 1) hd hn hr0 hf) gJ5_putStringAt_47b60_J0_getBytes_840e7 ⟨rfl, by decide +kernel, by decide +kernel, rfl⟩ rfl ⟨(Nat.le_of_ble_eq_true rfl), (Nat.le_of_ble_eq_true rfl)⟩ (fun H locs hS => vk_recv hJJ.2.2.1 hk hS) (cut_putK Y ad κ (fun j => (sg_byt.getD k []).getD j 0) d (sg_len.getD k 0)) rfl (Nat.le_of_ble_eq_true rfl) ⟨Nat.le_refl _, Nat.le_refl _⟩ dJ5_putStringAt_47b60_15 rfl rfl ?_
  exact g_vret C hr hQ hsz dJ5_putStringAt_47b60_18 rfl
theorem ksJ5_append_cf1ce_J4 : ∀ w ∈ u_ws RJ4 TJ4 4, w ∈ wsJ5_append_cf1ce := by decide +kernel
theorem ksJ5_append_cf1ce_f79 : Cond.fieldLink RJ5 79 "java/lang/AbstractStringBuilder" "count" "I" ∈ wsJ5_append_cf1ce := by decide +kernel
set_option maxHeartbeats 4000000 in
set_option maxRecDepth 100000 in
theorem cs_appSW (l : Launch) {D : va_G} {Y : Nat → ClassId} {Z : (Nat → Prop) → State → Heap → Prop} (hZ : sg_Zok Z) {jK jV jT : Nat → Nat} (hJ : sg_ZJ Z jK jV jT) {a v n : Nat} {h z : Int32} {f : Nat → Int32} {ad : Nat → Nat} {κ κ1 : sg_S} {d : Nat} (hE : f_J5_ensureCapacityInternal_d00dfK (nb (d + n)) κ = some κ1) (h3 : κ 0 3 = nb d) (h4 : κ1 0 3 = nb d) (hc : κ1 0 1 = 0) (hd : d < 100000) (hn : n < 100000) (hr0 : d + n ≤ (κ1 0 0).toNatClampNeg) (hf : ∀ i, i < n → fits .byte (.int (f i)) = true) : sg_XR l yJ5_append_cf1ce wsJ5_append_cf1ce 4 91 1 900 D Y Z [.ref (ad 0), .ref a] (ww_J4 Y ad κ ++ (ww_S Y a v h z n f)) (fun _ : Nat => True) (fun _ => ad 0) (fun q => (ww_J4 Y (sg_ua ad 1 q) (sg_up (sg_ur κ1 1 (va_cpy f (κ1 1) 0 d n)) 0 3 (nb (d + n))) ++ (ww_S Y a v h z n f))) := by
  intro sz
  refine sg_enterX (own := RJ5) (maxL := 3) (ret := (some (.object "java/lang/AbstractStringBuilder"))) (cc := cJ5_append_cf1ce) (by decide +kernel) rfl rfl (Nat.le_of_ble_eq_true rfl) hZ ?_
  intro p e s m args below meth c C hr hin Q hQ hsz
  have hJJ := hJ _ _ _ C.2.2.2.2.2.2.2.2.1
  refine g_lv (lv2 := [(0, .ref (ad 0)), (1, .ref a)]) [0, 1] rfl ?_
  refine g_aload_n 1 C dJ5_append_cf1ce_0 rfl rfl rfl ?_
  refine g_ifnonnull 9 C dJ5_append_cf1ce_1 (by decide) ?_
  refine g_aload_n 10 C dJ5_append_cf1ce_9 rfl rfl rfl ?_
  refine g_callViP 13 C (w2 := (ww_J4 Y ad κ ++ (ww_S Y a v h z n f))) (As := []) (st := []) (n0 := 0) (ci := 0) (q0 := 2) (cs_length l hZ hJ) gJ5_append_cf1ce_J0_length_8abf5 ⟨rfl, by decide +kernel, by decide +kernel, rfl⟩ rfl ⟨(Nat.le_of_ble_eq_true rfl), (Nat.le_of_ble_eq_true rfl)⟩ rfl rfl (sg_cutMid 2 2 rfl rfl) rfl (Nat.le_of_ble_eq_true rfl) ⟨Nat.zero_le _, Nat.zero_le _⟩ dJ5_append_cf1ce_10 rfl rfl ?_
  refine g_istore_n 14 C [(2, .int (nb n)), (0, .ref (ad 0)), (1, .ref a)] dJ5_append_cf1ce_13 rfl rfl (by decide) rfl ?_
  refine g_aload_n 15 C dJ5_append_cf1ce_14 rfl rfl rfl ?_
  refine g_aload_n 16 C dJ5_append_cf1ce_15 rfl rfl rfl ?_
  refine g_get 19 C (own := RJ5) (C1 := RJ4) (T := TJ4) 0 3 (.int (κ 0 3)) ksJ5_append_cf1ce_J4 ksJ5_append_cf1ce_f79 rfl dJ5_append_cf1ce_16 rfl rfl rfl (by decide) rfl ?_
  refine g_top (v := (nb d)) h3.symm ?_
  refine g_iload_n 20 C dJ5_append_cf1ce_19 rfl rfl rfl ?_
  refine g_iadd 21 C dJ5_append_cf1ce_20 rfl ?_
  refine g_top (v := (nb (d + n))) (nb_add _ _).symm ?_
  refine g_XUv 24 C (w2 := fun q => (ww_J4 Y (sg_ua ad 1 q) κ1 ++ (ww_S Y a v h z n f))) (As := [.int (nb (d + n))]) (st := []) (n0 := 1) (C2 := RJ4) (ci := 1) (q0 := 0) (c_J5_ensureCapacityInternal_d00dfK l hZ (ad := ad) hE) gJ5_append_cf1ce_J5_ensureCapacityInternal_d00df_u100J4 rfl ⟨by decide +kernel, by decide +kernel, rfl⟩ rfl ⟨(Nat.le_of_ble_eq_true rfl), (Nat.le_of_ble_eq_true rfl)⟩ rfl rfl ⟨(ww_S Y a v h z n f), List.Perm.refl _, fun _ => List.perm_append_comm⟩ rfl (Nat.le_of_ble_eq_true rfl) ⟨(Nat.le_of_ble_eq_true rfl), (Nat.le_of_ble_eq_true rfl)⟩ dJ5_append_cf1ce_21 rfl rfl (fun q _ => ?_)
  refine g_aload_n 25 C dJ5_append_cf1ce_24 rfl rfl rfl ?_
  refine g_aload_n 26 C dJ5_append_cf1ce_25 rfl rfl rfl ?_
  refine g_get 29 C (own := RJ5) (C1 := RJ4) (T := TJ4) 0 3 (.int (κ1 0 3)) ksJ5_append_cf1ce_J4 ksJ5_append_cf1ce_f79 rfl dJ5_append_cf1ce_26 rfl rfl rfl (by decide) rfl ?_
  refine g_top (v := (nb d)) h4.symm ?_
  refine g_aload_n 30 C dJ5_append_cf1ce_29 rfl rfl rfl ?_
  refine g_callUv 33 C (w2 := (ww_J4 Y (sg_ua ad 1 q) (sg_ur κ1 1 (va_cpy f (κ1 1) 0 d n)) ++ (ww_S Y a v h z n f))) (As := [.int (nb d), .ref a]) (st := []) (n0 := 2) (C2 := RJ4) (ci := 1) (q0 := 0) (cs_putStrW l hZ hJ (ad := sg_ua ad 1 q) (κ := κ1) (d := d) hc hd hn hr0 hf) gJ5_append_cf1ce_J5_putStringAt_47b60_u208J4 rfl ⟨by decide +kernel, by decide +kernel, rfl⟩ rfl ⟨(Nat.le_of_ble_eq_true rfl), (Nat.le_of_ble_eq_true rfl)⟩ rfl rfl sg_cutAll rfl (Nat.le_of_ble_eq_true rfl) ⟨(Nat.le_of_ble_eq_true rfl), (Nat.le_of_ble_eq_true rfl)⟩ dJ5_append_cf1ce_30 rfl rfl ?_
  refine g_aload_n 34 C dJ5_append_cf1ce_33 rfl rfl rfl ?_
  refine g_dup 35 C dJ5_append_cf1ce_34 rfl rfl ?_
  refine g_get 38 C (own := RJ5) (C1 := RJ4) (T := TJ4) 0 3 (.int (κ1 0 3)) ksJ5_append_cf1ce_J4 ksJ5_append_cf1ce_f79 rfl dJ5_append_cf1ce_35 rfl rfl rfl (by decide) rfl ?_
  refine g_top (v := (nb d)) h4.symm ?_
  refine g_iload_n 39 C dJ5_append_cf1ce_38 rfl rfl rfl ?_
  refine g_iadd 40 C dJ5_append_cf1ce_39 rfl ?_
  refine g_top (v := (nb (d + n))) (nb_add _ _).symm ?_
  refine g_put 43 C (own := RJ5) (C1 := RJ4) (T := TJ4) (w2 := (ww_J4 Y (sg_ua ad 1 q) (sg_up (sg_ur κ1 1 (va_cpy f (κ1 1) 0 d n)) 0 3 (nb (d + n))) ++ (ww_S Y a v h z n f))) 0 3 tyJ4 tyJ4_ok nmJ4 ksJ5_append_cf1ce_J4 ksJ5_append_cf1ce_f79 rfl rfl (ty := .int) (by decide) rfl rfl (sg_blt rfl) dJ5_append_cf1ce_40 rfl rfl rfl (by decide) rfl ?_
  refine g_aload_n 44 C dJ5_append_cf1ce_43 rfl rfl rfl ?_
  exact g_aretX (P := fun (_ : Nat) => True) (ra := fun _ => ad 0) (w' := fun q => (ww_J4 Y (sg_ua ad 1 q) (sg_up (sg_ur κ1 1 (va_cpy f (κ1 1) 0 d n)) 0 3 (nb (d + n))) ++ (ww_S Y a v h z n f))) q C hr (Or.inl ⟨_, rfl⟩) hQ hsz dJ5_append_cf1ce_44 trivial rfl rfl
set_option maxHeartbeats 4000000 in
set_option maxRecDepth 100000 in
theorem cs_appendSW (l : Launch) {D : va_G} {Y : Nat → ClassId} {Z : (Nat → Prop) → State → Heap → Prop} (hZ : sg_Zok Z) {jK jV jT : Nat → Nat} (hJ : sg_ZJ Z jK jV jT) {a v n : Nat} {h z : Int32} {f : Nat → Int32} {ad : Nat → Nat} {κ κ1 : sg_S} {d : Nat} (hE : f_J5_ensureCapacityInternal_d00dfK (nb (d + n)) κ = some κ1) (h3 : κ 0 3 = nb d) (h4 : κ1 0 3 = nb d) (hc : κ1 0 1 = 0) (hd : d < 100000) (hn : n < 100000) (hr0 : d + n ≤ (κ1 0 0).toNatClampNeg) (hf : ∀ i, i < n → fits .byte (.int (f i)) = true) : sg_XR l yJ4_append_15ec4 wsJ4_append_15ec4 5 113 1 900 D Y Z [.ref (ad 0), .ref a] (ww_J4 Y ad κ ++ (ww_S Y a v h z n f)) (fun _ : Nat => True) (fun _ => ad 0) (fun q => (ww_J4 Y (sg_ua ad 1 q) (sg_up (sg_ur κ1 1 (va_cpy f (κ1 1) 0 d n)) 0 3 (nb (d + n))) ++ (ww_S Y a v h z n f))) := by
  intro sz
  refine sg_enterX (own := RJ4) (maxL := 2) (ret := (some (.object "java/lang/StringBuilder"))) (cc := cJ4_append_15ec4) (by decide +kernel) rfl rfl (Nat.le_of_ble_eq_true rfl) hZ ?_
  intro p e s m args below meth c C hr hin Q hQ hsz
  refine g_lv (lv2 := [(0, .ref (ad 0)), (1, .ref a)]) [0, 1] rfl ?_
  refine g_aload_n 1 C dJ4_append_15ec4_0 rfl rfl rfl ?_
  refine g_aload_n 2 C dJ4_append_15ec4_1 rfl rfl rfl ?_
  refine g_XSUr 5 C (w2 := fun q => (ww_J4 Y (sg_ua ad 1 q) (sg_up (sg_ur κ1 1 (va_cpy f (κ1 1) 0 d n)) 0 3 (nb (d + n))) ++ (ww_S Y a v h z n f))) (As := [.ref a]) (st := []) (n0 := 1) (ci := 1) (q0 := 0) (cs_appSW l hZ hJ (ad := ad) hE h3 h4 hc hd hn hr0 hf) gJ4_append_15ec4_J5_append_cf1ce_s29 ⟨by decide +kernel, rfl⟩ rfl ⟨(Nat.le_of_ble_eq_true rfl), (Nat.le_of_ble_eq_true rfl)⟩ rfl rfl ⟨[], by rw [List.append_nil], fun _ => List.Perm.of_eq (List.nil_append _)⟩ rfl (Nat.le_of_ble_eq_true rfl) ⟨(Nat.le_of_ble_eq_true rfl), (Nat.le_of_ble_eq_true rfl)⟩ dJ4_append_15ec4_2 rfl rfl (fun q _ => ?_)
  refine g_pop 6 C dJ4_append_15ec4_5 rfl rfl ?_
  refine g_aload_n 7 C dJ4_append_15ec4_6 rfl rfl rfl ?_
  exact g_aretX (P := fun (_ : Nat) => True) (ra := fun _ => ad 0) (w' := fun q => (ww_J4 Y (sg_ua ad 1 q) (sg_up (sg_ur κ1 1 (va_cpy f (κ1 1) 0 d n)) 0 3 (nb (d + n))) ++ (ww_S Y a v h z n f))) q C hr (Or.inl ⟨_, rfl⟩) hQ hsz dJ4_append_15ec4_7 trivial rfl rfl
set_option maxHeartbeats 4000000 in
set_option maxRecDepth 100000 in
theorem cs_appSK (l : Launch) {D : va_G} {Y : Nat → ClassId} {Z : (Nat → Prop) → State → Heap → Prop} (hZ : sg_Zok Z) {jK jV jT : Nat → Nat} (hJ : sg_ZJ Z jK jV jT) {k : Nat} (hk : k < 15) {ad : Nat → Nat} {κ κ1 : sg_S} {d : Nat} (hE : f_J5_ensureCapacityInternal_d00dfK (nb (d + (sg_len.getD k 0))) κ = some κ1) (h3 : κ 0 3 = nb d) (h4 : κ1 0 3 = nb d) (hc : κ1 0 1 = 0) (hd : d < 100000) (hn : (sg_len.getD k 0) < 100000) (hr0 : d + (sg_len.getD k 0) ≤ (κ1 0 0).toNatClampNeg) (hf : ∀ i, i < (sg_len.getD k 0) → fits .byte (.int ((fun j => (sg_byt.getD k []).getD j 0) i)) = true) : sg_XR l yJ5_append_cf1ce wsJ5_append_cf1ce 4 91 1 900 D Y Z [.ref (ad 0), .ref (jK k)] (ww_J4 Y ad κ) (fun _ : Nat => True) (fun _ => ad 0) (fun q => (ww_J4 Y (sg_ua ad 1 q) (sg_up (sg_ur κ1 1 (va_cpy (fun j => (sg_byt.getD k []).getD j 0) (κ1 1) 0 d (sg_len.getD k 0))) 0 3 (nb (d + (sg_len.getD k 0)))))) := by
  intro sz
  refine sg_enterX (own := RJ5) (maxL := 3) (ret := (some (.object "java/lang/AbstractStringBuilder"))) (cc := cJ5_append_cf1ce) (by decide +kernel) rfl rfl (Nat.le_of_ble_eq_true rfl) hZ ?_
  intro p e s m args below meth c C hr hin Q hQ hsz
  have hJJ := hJ _ _ _ C.2.2.2.2.2.2.2.2.1
  refine g_lv (lv2 := [(0, .ref (ad 0)), (1, .ref (jK k))]) [0, 1] rfl ?_
  refine g_aload_n 1 C dJ5_append_cf1ce_0 rfl rfl rfl ?_
  refine g_ifnonnull 9 C dJ5_append_cf1ce_1 (by decide) ?_
  refine g_aload_n 10 C dJ5_append_cf1ce_9 rfl rfl rfl ?_
  refine g_callKi 13 C (w2 := (ww_J4 Y ad κ)) (As := []) (st := []) (n0 := 0) (c_J0_length_8abf5 l hZ hJ (hk := hk) (ad := ad) (σ := κ) (r := nb (sg_len.getD k 0)) (by show some _ = some _; exact congrArg some (sb_sh0 _))) gJ5_append_cf1ce_J0_length_8abf5 ⟨rfl, by decide +kernel, by decide +kernel, rfl⟩ rfl ⟨(Nat.le_of_ble_eq_true rfl), (Nat.le_of_ble_eq_true rfl)⟩ (fun H locs hS => vk_recv hJJ.2.2.1 hk hS) sg_cutNone rfl (Nat.le_of_ble_eq_true rfl) ⟨Nat.zero_le _, Nat.zero_le _⟩ dJ5_append_cf1ce_10 rfl rfl ?_
  refine g_istore_n 14 C [(2, .int (nb (sg_len.getD k 0))), (0, .ref (ad 0)), (1, .ref (jK k))] dJ5_append_cf1ce_13 rfl rfl (by decide) rfl ?_
  refine g_aload_n 15 C dJ5_append_cf1ce_14 rfl rfl rfl ?_
  refine g_aload_n 16 C dJ5_append_cf1ce_15 rfl rfl rfl ?_
  refine g_get 19 C (own := RJ5) (C1 := RJ4) (T := TJ4) 0 3 (.int (κ 0 3)) ksJ5_append_cf1ce_J4 ksJ5_append_cf1ce_f79 rfl dJ5_append_cf1ce_16 rfl rfl rfl (by decide) rfl ?_
  refine g_top (v := (nb d)) h3.symm ?_
  refine g_iload_n 20 C dJ5_append_cf1ce_19 rfl rfl rfl ?_
  refine g_iadd 21 C dJ5_append_cf1ce_20 rfl ?_
  refine g_top (v := (nb (d + (sg_len.getD k 0)))) (nb_add _ _).symm ?_
  refine g_XUv 24 C (w2 := fun q => (ww_J4 Y (sg_ua ad 1 q) κ1)) (As := [.int (nb (d + (sg_len.getD k 0)))]) (st := []) (n0 := 1) (C2 := RJ4) (ci := 1) (q0 := 0) (c_J5_ensureCapacityInternal_d00dfK l hZ (ad := ad) hE) gJ5_append_cf1ce_J5_ensureCapacityInternal_d00df_u100J4 rfl ⟨by decide +kernel, by decide +kernel, rfl⟩ rfl ⟨(Nat.le_of_ble_eq_true rfl), (Nat.le_of_ble_eq_true rfl)⟩ rfl rfl ⟨[], by rw [List.append_nil], fun _ => List.Perm.of_eq (List.nil_append _)⟩ rfl (Nat.le_of_ble_eq_true rfl) ⟨(Nat.le_of_ble_eq_true rfl), (Nat.le_of_ble_eq_true rfl)⟩ dJ5_append_cf1ce_21 rfl rfl (fun q _ => ?_)
  refine g_aload_n 25 C dJ5_append_cf1ce_24 rfl rfl rfl ?_
  refine g_aload_n 26 C dJ5_append_cf1ce_25 rfl rfl rfl ?_
  refine g_get 29 C (own := RJ5) (C1 := RJ4) (T := TJ4) 0 3 (.int (κ1 0 3)) ksJ5_append_cf1ce_J4 ksJ5_append_cf1ce_f79 rfl dJ5_append_cf1ce_26 rfl rfl rfl (by decide) rfl ?_
  refine g_top (v := (nb d)) h4.symm ?_
  refine g_aload_n 30 C dJ5_append_cf1ce_29 rfl rfl rfl ?_
  refine g_callUv 33 C (w2 := (ww_J4 Y (sg_ua ad 1 q) (sg_ur κ1 1 (va_cpy (fun j => (sg_byt.getD k []).getD j 0) (κ1 1) 0 d (sg_len.getD k 0))))) (As := [.int (nb d), .ref (jK k)]) (st := []) (n0 := 2) (C2 := RJ4) (ci := 1) (q0 := 0) (cs_putStrK l hZ hJ (hk := hk) (ad := sg_ua ad 1 q) (κ := κ1) (d := d) hc hd hn hr0 hf) gJ5_append_cf1ce_J5_putStringAt_47b60_u208J4 rfl ⟨by decide +kernel, by decide +kernel, rfl⟩ rfl ⟨(Nat.le_of_ble_eq_true rfl), (Nat.le_of_ble_eq_true rfl)⟩ rfl rfl sg_cutAll rfl (Nat.le_of_ble_eq_true rfl) ⟨(Nat.le_of_ble_eq_true rfl), (Nat.le_of_ble_eq_true rfl)⟩ dJ5_append_cf1ce_30 rfl rfl ?_
  refine g_aload_n 34 C dJ5_append_cf1ce_33 rfl rfl rfl ?_
  refine g_dup 35 C dJ5_append_cf1ce_34 rfl rfl ?_
  refine g_get 38 C (own := RJ5) (C1 := RJ4) (T := TJ4) 0 3 (.int (κ1 0 3)) ksJ5_append_cf1ce_J4 ksJ5_append_cf1ce_f79 rfl dJ5_append_cf1ce_35 rfl rfl rfl (by decide) rfl ?_
  refine g_top (v := (nb d)) h4.symm ?_
  refine g_iload_n 39 C dJ5_append_cf1ce_38 rfl rfl rfl ?_
  refine g_iadd 40 C dJ5_append_cf1ce_39 rfl ?_
  refine g_top (v := (nb (d + (sg_len.getD k 0)))) (nb_add _ _).symm ?_
  refine g_put 43 C (own := RJ5) (C1 := RJ4) (T := TJ4) (w2 := (ww_J4 Y (sg_ua ad 1 q) (sg_up (sg_ur κ1 1 (va_cpy (fun j => (sg_byt.getD k []).getD j 0) (κ1 1) 0 d (sg_len.getD k 0))) 0 3 (nb (d + (sg_len.getD k 0)))))) 0 3 tyJ4 tyJ4_ok nmJ4 ksJ5_append_cf1ce_J4 ksJ5_append_cf1ce_f79 rfl rfl (ty := .int) (by decide) rfl rfl (sg_blt rfl) dJ5_append_cf1ce_40 rfl rfl rfl (by decide) rfl ?_
  refine g_aload_n 44 C dJ5_append_cf1ce_43 rfl rfl rfl ?_
  exact g_aretX (P := fun (_ : Nat) => True) (ra := fun _ => ad 0) (w' := fun q => (ww_J4 Y (sg_ua ad 1 q) (sg_up (sg_ur κ1 1 (va_cpy (fun j => (sg_byt.getD k []).getD j 0) (κ1 1) 0 d (sg_len.getD k 0))) 0 3 (nb (d + (sg_len.getD k 0)))))) q C hr (Or.inl ⟨_, rfl⟩) hQ hsz dJ5_append_cf1ce_44 trivial rfl rfl
set_option maxHeartbeats 4000000 in
set_option maxRecDepth 100000 in
theorem cs_appendSK (l : Launch) {D : va_G} {Y : Nat → ClassId} {Z : (Nat → Prop) → State → Heap → Prop} (hZ : sg_Zok Z) {jK jV jT : Nat → Nat} (hJ : sg_ZJ Z jK jV jT) {k : Nat} (hk : k < 15) {ad : Nat → Nat} {κ κ1 : sg_S} {d : Nat} (hE : f_J5_ensureCapacityInternal_d00dfK (nb (d + (sg_len.getD k 0))) κ = some κ1) (h3 : κ 0 3 = nb d) (h4 : κ1 0 3 = nb d) (hc : κ1 0 1 = 0) (hd : d < 100000) (hn : (sg_len.getD k 0) < 100000) (hr0 : d + (sg_len.getD k 0) ≤ (κ1 0 0).toNatClampNeg) (hf : ∀ i, i < (sg_len.getD k 0) → fits .byte (.int ((fun j => (sg_byt.getD k []).getD j 0) i)) = true) : sg_XR l yJ4_append_15ec4 wsJ4_append_15ec4 5 113 1 900 D Y Z [.ref (ad 0), .ref (jK k)] (ww_J4 Y ad κ) (fun _ : Nat => True) (fun _ => ad 0) (fun q => (ww_J4 Y (sg_ua ad 1 q) (sg_up (sg_ur κ1 1 (va_cpy (fun j => (sg_byt.getD k []).getD j 0) (κ1 1) 0 d (sg_len.getD k 0))) 0 3 (nb (d + (sg_len.getD k 0)))))) := by
  intro sz
  refine sg_enterX (own := RJ4) (maxL := 2) (ret := (some (.object "java/lang/StringBuilder"))) (cc := cJ4_append_15ec4) (by decide +kernel) rfl rfl (Nat.le_of_ble_eq_true rfl) hZ ?_
  intro p e s m args below meth c C hr hin Q hQ hsz
  refine g_lv (lv2 := [(0, .ref (ad 0)), (1, .ref (jK k))]) [0, 1] rfl ?_
  refine g_aload_n 1 C dJ4_append_15ec4_0 rfl rfl rfl ?_
  refine g_aload_n 2 C dJ4_append_15ec4_1 rfl rfl rfl ?_
  refine g_XSUr 5 C (w2 := fun q => (ww_J4 Y (sg_ua ad 1 q) (sg_up (sg_ur κ1 1 (va_cpy (fun j => (sg_byt.getD k []).getD j 0) (κ1 1) 0 d (sg_len.getD k 0))) 0 3 (nb (d + (sg_len.getD k 0)))))) (As := [.ref (jK k)]) (st := []) (n0 := 1) (ci := 1) (q0 := 0) (cs_appSK l hZ hJ (hk := hk) (ad := ad) hE h3 h4 hc hd hn hr0 hf) gJ4_append_15ec4_J5_append_cf1ce_s29 ⟨by decide +kernel, rfl⟩ rfl ⟨(Nat.le_of_ble_eq_true rfl), (Nat.le_of_ble_eq_true rfl)⟩ rfl rfl ⟨[], by rw [List.append_nil], fun _ => List.Perm.of_eq (List.nil_append _)⟩ rfl (Nat.le_of_ble_eq_true rfl) ⟨(Nat.le_of_ble_eq_true rfl), (Nat.le_of_ble_eq_true rfl)⟩ dJ4_append_15ec4_2 rfl rfl (fun q _ => ?_)
  refine g_pop 6 C dJ4_append_15ec4_5 rfl rfl ?_
  refine g_aload_n 7 C dJ4_append_15ec4_6 rfl rfl rfl ?_
  exact g_aretX (P := fun (_ : Nat) => True) (ra := fun _ => ad 0) (w' := fun q => (ww_J4 Y (sg_ua ad 1 q) (sg_up (sg_ur κ1 1 (va_cpy (fun j => (sg_byt.getD k []).getD j 0) (κ1 1) 0 d (sg_len.getD k 0))) 0 3 (nb (d + (sg_len.getD k 0)))))) q C hr (Or.inl ⟨_, rfl⟩) hQ hsz dJ4_append_15ec4_7 trivial rfl rfl
