/-! THE LAW'S ENTRY: what the Statement gives of the start -/
theorem va_AOA.moved {ty : FieldType} {u U : State} (hvm : u.vm.Alike U.vm) (h : va_AOA ty u) : va_AOA ty U := Jvm.Stand.arrayOver_alikeB hvm h
def sl_Z (jK jV jT : Nat → Nat) (A : Nat → Prop) (U : State) (H : Heap) : Prop := sg_Zn U ∧ sg_Zs A U H ∧ sg_Zj jK jV jT A U H ∧ sg_Zc U
theorem sl_Zok (jK jV jT : Nat → Nat) : sg_Zok (sl_Z jK jV jT) := by
  refine ⟨fun A u U H hW h => ?_, fun A U H H1 h hq => ?_, fun A B U H h hAB => ?_, fun A U H h => h.1, fun A U H h => h.2.1⟩
  · obtain ⟨⟨a1, a2, a3, a4⟩, ⟨t, b1, b2⟩, ⟨c1, c2, c3, c4, ⟨c5, c6⟩, c7, c8⟩, ⟨d1, d2, d3, d4, d5⟩, e1, e2⟩ := h
    exact ⟨⟨a1.warmM hW, a2.warmM hW, a3.warmM hW, a4.warmF hW⟩, ⟨t, b1.moved hW.alike, b2.moved hW.alike⟩, ⟨c1.moved hW.alike, c2.moved hW.alike, c3.moved hW.alike, fun k hk => (c4 k hk).warm hW, ⟨c5.moved hW.alike, c6.moved hW.alike⟩, c7.moved hW.alike, c8.moved hW.alike⟩, ⟨d1.warmM hW, d2.warmM hW, d3.warmM hW, d4.warmM hW, d5.warmM hW⟩, e1.moved hW.alike, e2.moved hW.alike⟩
  · obtain ⟨a, ⟨t, b1, b2⟩, ⟨c1, c2, c3, c4, ⟨c5, c6⟩, c7, c8⟩, d⟩ := h
    exact ⟨a, ⟨t, b1.kept hq, b2.kept hq⟩, ⟨c1.kept hq, c2.kept hq, c3.kept hq, c4, ⟨c5.kept hq, c6.kept hq⟩, c7.kept hq, c8.kept hq⟩, d⟩
  · obtain ⟨a, ⟨t, b1, b2⟩, ⟨c1, c2, c3, c4, ⟨c5, c6⟩, c7, c8⟩, d⟩ := h
    exact ⟨a, ⟨t, b1.narrow hAB, b2.narrow hAB⟩, ⟨c1.narrow hAB, c2.narrow hAB, c3.narrow hAB, c4, ⟨c5.narrow hAB, c6.narrow hAB⟩, c7.narrow hAB, c8.narrow hAB⟩, d⟩
theorem sl_ZJ (jK jV jT : Nat → Nat) : sg_ZJ (sl_Z jK jV jT) jK jV jT := fun _ _ _ h => h.2.2.1
theorem sl_ZN (jK jV jT : Nat → Nat) : sg_ZN (sl_Z jK jV jT) := fun _ _ _ h => h.2.2.2
/-- the premises, one by one -/
def sl_L : List Cond := flatC (Jvm.Cond.and given_1 narrow_1)
set_option maxRecDepth 20000 in
theorem sl_cJ4 : ∀ w ∈ u_ws RJ4 TJ4 4, w ∈ lw_tbl := by decide +kernel
theorem sl_nJ4 : Cond.instantiable RJ4 4 ∈ lw_tbl := by decide +kernel
set_option maxRecDepth 20000 in
theorem sl_cX0 : ∀ w ∈ u_ws RX0 TX0 8, w ∈ lw_tbl := by decide +kernel
theorem sl_nX0 : Cond.instantiable RX0 8 ∈ lw_tbl := by decide +kernel
set_option maxRecDepth 20000 in
theorem sl_cX1 : ∀ w ∈ u_ws RX1 TX1 4, w ∈ lw_tbl := by decide +kernel
theorem sl_nX1 : Cond.instantiable RX1 4 ∈ lw_tbl := by decide +kernel
set_option maxRecDepth 20000 in
theorem sl_cX2 : ∀ w ∈ u_ws RX2 TX2 3, w ∈ lw_tbl := by decide +kernel
theorem sl_nX2 : Cond.instantiable RX2 3 ∈ lw_tbl := by decide +kernel
set_option maxRecDepth 20000 in
theorem sl_cX3 : ∀ w ∈ u_ws RX3 TX3 8, w ∈ lw_tbl := by decide +kernel
theorem sl_nX3 : Cond.instantiable RX3 8 ∈ lw_tbl := by decide +kernel
set_option maxRecDepth 20000 in
theorem sl_cX4 : ∀ w ∈ u_ws RX4 TX4 4, w ∈ lw_tbl := by decide +kernel
theorem sl_nX4 : Cond.instantiable RX4 4 ∈ lw_tbl := by decide +kernel
set_option maxRecDepth 20000 in
theorem sl_cX5 : ∀ w ∈ u_ws RX5 TX5 5, w ∈ lw_tbl := by decide +kernel
theorem sl_nX5 : Cond.instantiable RX5 5 ∈ lw_tbl := by decide +kernel
set_option maxRecDepth 20000 in
theorem sl_cX6 : ∀ w ∈ u_ws RX6 TX6 2, w ∈ lw_tbl := by decide +kernel
theorem sl_nX6 : Cond.instantiable RX6 2 ∈ lw_tbl := by decide +kernel
set_option maxRecDepth 20000 in
theorem sl_cX7 : ∀ w ∈ u_ws RX7 TX7 10, w ∈ lw_tbl := by decide +kernel
theorem sl_nX7 : Cond.instantiable RX7 10 ∈ lw_tbl := by decide +kernel
set_option maxRecDepth 20000 in
theorem sl_cX8 : ∀ w ∈ u_ws RX8 TX8 27, w ∈ lw_tbl := by decide +kernel
theorem sl_nX8 : Cond.instantiable RX8 27 ∈ lw_tbl := by decide +kernel
theorem sl_ai : Cond.arrayClass .int ∈ lw_tbl := by decide +kernel
theorem sl_ab : Cond.arrayClass .byte ∈ lw_tbl := by decide +kernel
theorem sl_oR : Cond.arrayOver (.object RX3) ∈ lw_tbl := by decide +kernel
theorem sl_oA : Cond.arrayOver (.array .int) ∈ lw_tbl := by decide +kernel
theorem sl_arrC {s : State} {args : Array Value} {ty : FieldType} (hty : ∀ C, ty ≠ .object C) (h : (Cond.arrayClass ty).before args s = true) : ∃ c, ArrOfT s c ty ∧ va_RA s c ty := by
  obtain ⟨c, k, comp, h1, h2, h3⟩ := Cond.arrayClass_spec h
  refine ⟨c, fun n z => ⟨fun k h => (by cases h), k, h2, comp, h3⟩, ?_⟩
  cases ty with
  | object C => exact absurd rfl (hty C)
  | _ => exact h1
theorem sl_arrR {s : State} {args : Array Value} {C : String} (h : (Cond.arrayOver (.object C)).before args s = true) : ∃ c, ArrOfT s c (.object C) ∧ va_RA s c (.object C) := by
  obtain ⟨comp, c, k, h1, h2, h3, h4, h5⟩ := Cond.arrayOver_spec h
  exact ⟨c, fun n z => ⟨fun k h => (by cases h), k, h3, comp, h4⟩, k, comp, h3, h4, h1, h5⟩
theorem sl_arrA {s : State} {args : Array Value} {ty : FieldType} (h : (Cond.arrayOver (.array ty)).before args s = true) : ∃ c, ArrOfT s c (.array ty) ∧ va_RA s c (.array ty) := by
  obtain ⟨comp, c, k, h1, h2, h3, h4⟩ := Cond.arrayOver_specA h
  exact ⟨c, fun n z => ⟨fun k h => (by cases h), k, h2, comp, h3⟩, h4⟩
theorem sl_K {s : State} {args : Array Value} (hts : ∀ w ∈ lw_tbl, w.before args s = true) : ∃ (D : va_G) (Y : Nat → ClassId), va_K D vwCl (sg_T Y) s := by
  obtain ⟨c0, i0, h0⟩ := u_known hts sl_cJ4 (hts _ sl_nJ4)
  obtain ⟨c1, i1, h1⟩ := u_known hts sl_cX0 (hts _ sl_nX0)
  obtain ⟨c2, i2, h2⟩ := u_known hts sl_cX1 (hts _ sl_nX1)
  obtain ⟨c3, i3, h3⟩ := u_known hts sl_cX2 (hts _ sl_nX2)
  obtain ⟨c4, i4, h4⟩ := u_known hts sl_cX3 (hts _ sl_nX3)
  obtain ⟨c5, i5, h5⟩ := u_known hts sl_cX4 (hts _ sl_nX4)
  obtain ⟨c6, i6, h6⟩ := u_known hts sl_cX5 (hts _ sl_nX5)
  obtain ⟨c7, i7, h7⟩ := u_known hts sl_cX6 (hts _ sl_nX6)
  obtain ⟨c8, i8, h8⟩ := u_known hts sl_cX7 (hts _ sl_nX7)
  obtain ⟨c9, i9, h9⟩ := u_known hts sl_cX8 (hts _ sl_nX8)
  obtain ⟨a0, b0, d0⟩ := sl_arrC (ty := .int) (fun C h => by cases h) (hts _ sl_ai)
  obtain ⟨a1, b1, d1⟩ := sl_arrC (ty := .byte) (fun C h => by cases h) (hts _ sl_ab)
  obtain ⟨a2, b2, d2⟩ := sl_arrR (hts _ sl_oR)
  obtain ⟨a3, b3, d3⟩ := sl_arrA (hts _ sl_oA)
  refine ⟨(fun k => match k with | 0 => c0 | 1 => c1 | 2 => c2 | 3 => c3 | 4 => c4 | 5 => c5 | 6 => c6 | 7 => c7 | 8 => c8 | _ => c9, fun k => match k with | 0 => i0 | 1 => i1 | 2 => i2 | 3 => i3 | 4 => i4 | 5 => i5 | 6 => i6 | 7 => i7 | 8 => i8 | _ => i9), (fun k => match k with | 0 => a0 | 1 => a1 | 2 => a2 | _ => a3), fun c q hq => ?_, fun k q hk => ?_⟩
  · have hl : c < 10 := (List.getElem?_eq_some_iff.mp hq).1
    rcases (show c = 0 ∨ c = 1 ∨ c = 2 ∨ c = 3 ∨ c = 4 ∨ c = 5 ∨ c = 6 ∨ c = 7 ∨ c = 8 ∨ c = 9 by omega) with rfl | rfl | rfl | rfl | rfl | rfl | rfl | rfl | rfl | rfl
    all_goals (have e := Option.some.inj hq; rw [← e])
    · exact h0
    · exact h1
    · exact h2
    · exact h3
    · exact h4
    · exact h5
    · exact h6
    · exact h7
    · exact h8
    · exact h9
  · have hl : k < 4 := (List.getElem?_eq_some_iff.mp hk).1
    rcases (show k = 0 ∨ k = 1 ∨ k = 2 ∨ k = 3 by omega) with rfl | rfl | rfl | rfl
    all_goals (have e := Option.some.inj hk; rw [← e])
    · exact ⟨b0, d0⟩
    · exact ⟨b1, d1⟩
    · exact ⟨b2, d2⟩
    · exact ⟨b3, d3⟩
theorem sl_t1 : Cond.methodLinkNest RX6 24 yX7_isTown RX7 ∈ lw_tbl := by decide +kernel
theorem sl_t2 : Cond.methodLinkNest RX3 65 yX7_isTown RX7 ∈ lw_tbl := by decide +kernel
theorem sl_t3 : Cond.methodLinkNest RX3 80 yX7_sumOf RX7 ∈ lw_tbl := by decide +kernel
theorem sl_t4 : Cond.fieldLinkNest RX3 117 RX7 "SUN_OF_MONTHS" "[I" RX7 ∈ lw_tbl := by decide +kernel
theorem sl_t5 : Cond.methodLinkNest RX3 30 yX6_init RX7 ∈ lw_tbl := by decide +kernel
theorem sl_t6 : Cond.methodLinkNest RX3 37 yX1_init RX7 ∈ lw_tbl := by decide +kernel
theorem sl_t7 : Cond.methodLinkNest RX3 44 yX0_init RX7 ∈ lw_tbl := by decide +kernel
theorem sl_t8 : Cond.methodLinkNest RX7 38 yX5_init RX7 ∈ lw_tbl := by decide +kernel
theorem sl_t9 : Cond.methodLinkNest RX7 52 yX4_init RX7 ∈ lw_tbl := by decide +kernel
theorem sl_s1 : Cond.laysStatic "java/lang/String" "COMPACT_STRINGS" "Z" ∈ lw_tbl := by decide +kernel
theorem sl_s2 : Cond.initialized "java/lang/String" ∈ lw_tbl := by decide +kernel
theorem sl_s3 : Cond.laysStatic RX7 "SUN_OF_MONTHS" "[I" ∈ lw_tbl := by decide +kernel
theorem sl_s4 : Cond.initialized RX7 ∈ lw_tbl := by decide +kernel
theorem sl_s5 : Cond.laysStatic "jdk/internal/util/Preconditions" "SIOOBE_FORMATTER" "Ljava/util/function/BiFunction;" ∈ lw_tbl := by decide +kernel
theorem sl_s6 : Cond.initialized "jdk/internal/util/Preconditions" ∈ lw_tbl := by decide +kernel
theorem sl_s7 : Cond.laysStatic "java/lang/Integer" "DigitTens" "[B" ∈ lw_tbl := by decide +kernel
theorem sl_s8 : Cond.laysStatic "java/lang/Integer" "DigitOnes" "[B" ∈ lw_tbl := by decide +kernel
theorem sl_s9 : Cond.initialized "java/lang/Integer" ∈ lw_tbl := by decide +kernel
theorem sl_sr : ∀ k, k < 8 → Cond.stringRef RX5 (34 + 2 * k) (sg_txt k) ∈ lw_tbl := by decide +kernel
theorem sl_p2 : Cond.eq (.static "java/lang/String" "COMPACT_STRINGS" "Z") (.int 1) ∈ sl_L := List.mem_of_getElem? (i := 4) (by decide +kernel)
theorem sl_p4 : Cond.arrayOf (.static RX7 "SUN_OF_MONTHS" "[I") .int ∈ sl_L := List.mem_of_getElem? (i := 6) (by decide +kernel)
theorem sl_p5 : Cond.eq (.length (.static RX7 "SUN_OF_MONTHS" "[I")) (.int (Int32.ofNat 12)) ∈ sl_L := List.mem_of_getElem? (i := 7) (by decide +kernel)
theorem sl_p19 : Cond.arrayOf (.static "java/lang/Integer" "DigitOnes" "[B") .byte ∈ sl_L := List.mem_of_getElem? (i := 21) (by decide +kernel)
theorem sl_p20 : Cond.eq (.length (.static "java/lang/Integer" "DigitOnes" "[B")) (.int (Int32.ofNat 100)) ∈ sl_L := List.mem_of_getElem? (i := 22) (by decide +kernel)
theorem sl_p122 : Cond.arrayOf (.static "java/lang/Integer" "DigitTens" "[B") .byte ∈ sl_L := List.mem_of_getElem? (i := 124) (by decide +kernel)
theorem sl_p123 : Cond.eq (.length (.static "java/lang/Integer" "DigitTens" "[B")) (.int (Int32.ofNat 100)) ∈ sl_L := List.mem_of_getElem? (i := 125) (by decide +kernel)
theorem sl_p224 : Cond.isRef (.static "jdk/internal/util/Preconditions" "SIOOBE_FORMATTER" "Ljava/util/function/BiFunction;") ∈ sl_L := List.mem_of_getElem? (i := 226) (by decide +kernel)
set_option maxRecDepth 20000 in
theorem sl_e1 : ∀ j, j < 12 → Cond.eq (.elem (.static RX7 "SUN_OF_MONTHS" "[I") (.int (Int32.ofNat j))) (.int (sg_sun j)) ∈ sl_L := fun j hj => va_run (N := 12) (p := 8) (f := fun j => Cond.eq (.elem (.static RX7 "SUN_OF_MONTHS" "[I") (.int (Int32.ofNat j))) (.int (sg_sun j))) (by decide +kernel) j hj
set_option maxRecDepth 20000 in
theorem sl_e2 : ∀ j, j < 100 → Cond.eq (.elem (.static "java/lang/Integer" "DigitOnes" "[B") (.int (Int32.ofNat j))) (.int (sg_one j)) ∈ sl_L := fun j hj => va_run (N := 100) (p := 23) (f := fun j => Cond.eq (.elem (.static "java/lang/Integer" "DigitOnes" "[B") (.int (Int32.ofNat j))) (.int (sg_one j))) (by decide +kernel) j hj
set_option maxRecDepth 20000 in
theorem sl_e3 : ∀ j, j < 100 → Cond.eq (.elem (.static "java/lang/Integer" "DigitTens" "[B") (.int (Int32.ofNat j))) (.int (sg_ten j)) ∈ sl_L := fun j hj => va_run (N := 100) (p := 126) (f := fun j => Cond.eq (.elem (.static "java/lang/Integer" "DigitTens" "[B") (.int (Int32.ofNat j))) (.int (sg_ten j))) (by decide +kernel) j hj
def sl_tm (i : Nat) : Term := .string RX5 (34 + 2 * i)
theorem sl_x : ∀ i, i < 8 → Cond.exactly (sl_tm i) "java/lang/String" ∈ sl_L := by decide +kernel
theorem sl_y : ∀ i, i < 8 → Cond.eq (.field (sl_tm i) "java/lang/String" "coder" "B") (.int 0) ∈ sl_L := by decide +kernel
theorem sl_z : ∀ i, i < 8 → Cond.arrayOf (.field (sl_tm i) "java/lang/String" "value" "[B") .byte ∈ sl_L := by decide +kernel
theorem sl_l : ∀ i, i < 8 → Cond.eq (.length (.field (sl_tm i) "java/lang/String" "value" "[B")) (.int (Int32.ofNat (sg_len.getD i 0))) ∈ sl_L := by decide +kernel
set_option maxRecDepth 20000 in
theorem sl_b0 : ∀ j, j < 10 → Cond.eq (.elem (.field (sl_tm 0) "java/lang/String" "value" "[B") (.int (Int32.ofNat j))) (.int ((sg_byt.getD 0 []).getD j 0)) ∈ sl_L := fun j hj => va_run (N := 10) (p := 234) (f := fun j => Cond.eq (.elem (.field (sl_tm 0) "java/lang/String" "value" "[B") (.int (Int32.ofNat j))) (.int ((sg_byt.getD 0 []).getD j 0))) (by decide +kernel) j hj
set_option maxRecDepth 20000 in
theorem sl_b1 : ∀ j, j < 7 → Cond.eq (.elem (.field (sl_tm 1) "java/lang/String" "value" "[B") (.int (Int32.ofNat j))) (.int ((sg_byt.getD 1 []).getD j 0)) ∈ sl_L := fun j hj => va_run (N := 7) (p := 248) (f := fun j => Cond.eq (.elem (.field (sl_tm 1) "java/lang/String" "value" "[B") (.int (Int32.ofNat j))) (.int ((sg_byt.getD 1 []).getD j 0))) (by decide +kernel) j hj
set_option maxRecDepth 20000 in
theorem sl_b2 : ∀ j, j < 12 → Cond.eq (.elem (.field (sl_tm 2) "java/lang/String" "value" "[B") (.int (Int32.ofNat j))) (.int ((sg_byt.getD 2 []).getD j 0)) ∈ sl_L := fun j hj => va_run (N := 12) (p := 260) (f := fun j => Cond.eq (.elem (.field (sl_tm 2) "java/lang/String" "value" "[B") (.int (Int32.ofNat j))) (.int ((sg_byt.getD 2 []).getD j 0))) (by decide +kernel) j hj
set_option maxRecDepth 20000 in
theorem sl_b3 : ∀ j, j < 7 → Cond.eq (.elem (.field (sl_tm 3) "java/lang/String" "value" "[B") (.int (Int32.ofNat j))) (.int ((sg_byt.getD 3 []).getD j 0)) ∈ sl_L := fun j hj => va_run (N := 7) (p := 278) (f := fun j => Cond.eq (.elem (.field (sl_tm 3) "java/lang/String" "value" "[B") (.int (Int32.ofNat j))) (.int ((sg_byt.getD 3 []).getD j 0))) (by decide +kernel) j hj
set_option maxRecDepth 20000 in
theorem sl_b4 : ∀ j, j < 8 → Cond.eq (.elem (.field (sl_tm 4) "java/lang/String" "value" "[B") (.int (Int32.ofNat j))) (.int ((sg_byt.getD 4 []).getD j 0)) ∈ sl_L := fun j hj => va_run (N := 8) (p := 292) (f := fun j => Cond.eq (.elem (.field (sl_tm 4) "java/lang/String" "value" "[B") (.int (Int32.ofNat j))) (.int ((sg_byt.getD 4 []).getD j 0))) (by decide +kernel) j hj
set_option maxRecDepth 20000 in
theorem sl_b5 : ∀ j, j < 8 → Cond.eq (.elem (.field (sl_tm 5) "java/lang/String" "value" "[B") (.int (Int32.ofNat j))) (.int ((sg_byt.getD 5 []).getD j 0)) ∈ sl_L := fun j hj => va_run (N := 8) (p := 308) (f := fun j => Cond.eq (.elem (.field (sl_tm 5) "java/lang/String" "value" "[B") (.int (Int32.ofNat j))) (.int ((sg_byt.getD 5 []).getD j 0))) (by decide +kernel) j hj
set_option maxRecDepth 20000 in
theorem sl_b6 : ∀ j, j < 5 → Cond.eq (.elem (.field (sl_tm 6) "java/lang/String" "value" "[B") (.int (Int32.ofNat j))) (.int ((sg_byt.getD 6 []).getD j 0)) ∈ sl_L := fun j hj => va_run (N := 5) (p := 325) (f := fun j => Cond.eq (.elem (.field (sl_tm 6) "java/lang/String" "value" "[B") (.int (Int32.ofNat j))) (.int ((sg_byt.getD 6 []).getD j 0))) (by decide +kernel) j hj
set_option maxRecDepth 20000 in
theorem sl_b7 : ∀ j, j < 5 → Cond.eq (.elem (.field (sl_tm 7) "java/lang/String" "value" "[B") (.int (Int32.ofNat j))) (.int ((sg_byt.getD 7 []).getD j 0)) ∈ sl_L := fun j hj => va_run (N := 5) (p := 340) (f := fun j => Cond.eq (.elem (.field (sl_tm 7) "java/lang/String" "value" "[B") (.int (Int32.ofNat j))) (.int ((sg_byt.getD 7 []).getD j 0))) (by decide +kernel) j hj
theorem sl_b : ∀ i, i < 8 → ∀ j, j < sg_len.getD i 0 → Cond.eq (.elem (.field (sl_tm i) "java/lang/String" "value" "[B") (.int (Int32.ofNat j))) (.int ((sg_byt.getD i []).getD j 0)) ∈ sl_L := by
  intro i hi j hj
  rcases sg_lt8 hi with rfl | rfl | rfl | rfl | rfl | rfl | rfl | rfl
  · exact sl_b0 j hj
  · exact sl_b1 j hj
  · exact sl_b2 j hj
  · exact sl_b3 j hj
  · exact sl_b4 j hj
  · exact sl_b5 j hj
  · exact sl_b6 j hj
  · exact sl_b7 j hj
theorem sl_d : ∀ i, i < 8 → ∀ j, j < 8 → i ≠ j → (Cond.not (Cond.eq (sl_tm i) (sl_tm j)) ∈ sl_L ∨ Cond.not (Cond.eq (sl_tm j) (sl_tm i)) ∈ sl_L) := by decide +kernel
set_option maxHeartbeats 4000000 in
theorem sl_entry {s : State} {b : Nat} (hts : ∀ w ∈ lw_tbl, w.before #[Value.ref b] s = true) (hg : (Jvm.Cond.and given_1 narrow_1).before #[Value.ref b] s = true) : ∃ (D : va_G) (Y : Nat → ClassId) (jK jV jT : Nat → Nat), va_K D vwCl (sg_T Y) s ∧ sl_Z jK jV jT (fun q => s.heap.size ≤ q) s s.heap := by
  have hL : ∀ w ∈ sl_L, w.before #[Value.ref b] s = true := flat_of_before _ hg
  have hA : ∀ a : Nat, a < s.heap.size → ¬ (fun q => s.heap.size ≤ q) a := fun a h => Nat.not_le.mpr h
  obtain ⟨D, Y, hK⟩ := sl_K hts
  obtain ⟨t, et, hT⟩ := va_Tof (N := 12) (f := fun j => .int (sg_sun j)) (A := fun q => s.heap.size ≤ q) (by decide) (hL _ sl_p4) (va_eqt (hL _ sl_p5)) (fun j hj => va_eqt (hL _ (sl_e1 j hj))) hA
  obtain ⟨t2, et2, hT2⟩ := va_Tof (N := 100) (f := fun j => .int (sg_one j)) (A := fun q => s.heap.size ≤ q) (by decide) (hL _ sl_p19) (va_eqt (hL _ sl_p20)) (fun j hj => va_eqt (hL _ (sl_e2 j hj))) hA
  obtain ⟨t3, et3, hT3⟩ := va_Tof (N := 100) (f := fun j => .int (sg_ten j)) (A := fun q => s.heap.size ≤ q) (by decide) (hL _ sl_p122) (va_eqt (hL _ sl_p123)) (fun j hj => va_eqt (hL _ (sl_e3 j hj))) hA
  obtain ⟨jK, jV, hS, hE⟩ := vk_Sof (N := 8) (tm := sl_tm) (len := sg_len) (byt := sg_byt) (A := fun q => s.heap.size ≤ q) (by decide +kernel) (fun i hi => hL _ (sl_x i hi)) (fun i hi => hL _ (sl_y i hi)) (fun i hi => hL _ (sl_z i hi)) (fun i hi => hL _ (sl_l i hi)) (fun i hi j hj => hL _ (sl_b i hi j hj)) (fun i j hi hj hij => (sl_d i hi j hj hij).elim (fun h => Or.inl (hL _ h)) (fun h => Or.inr (hL _ h))) hA
  refine ⟨D, Y, jK, jV, fun k => match k with | 0 => t3 | _ => t2, hK, ⟨va_Nw.of rfl (hts _ sl_t1), va_Nw.of rfl (hts _ sl_t2), va_Nw.of rfl (hts _ sl_t3), va_Nw.of rfl (hts _ sl_t4)⟩, ⟨t, va_Zref (hts _ sl_s3) (hts _ sl_s4) et hA, hT⟩, ⟨va_Zof (hts _ sl_s1) (hts _ sl_s2) (va_eqi (hL _ sl_p2)) hA, va_Zqof (hts _ sl_s5) (hts _ sl_s6) (hL _ sl_p224) hA, hS, fun k hk => vk_R.of (hts _ (sl_sr k hk)) (hE k hk), ⟨va_Zref (hts _ sl_s7) (hts _ sl_s9) et3 hA, hT3⟩, va_Zref (hts _ sl_s8) (hts _ sl_s9) et2 hA, hT2⟩, ⟨va_Nw.of rfl (hts _ sl_t5), va_Nw.of rfl (hts _ sl_t6), va_Nw.of rfl (hts _ sl_t7), va_Nw.of rfl (hts _ sl_t8), va_Nw.of rfl (hts _ sl_t9)⟩, va_AO.of (hts _ sl_oR), va_AOA.of (hts _ sl_oA)⟩
