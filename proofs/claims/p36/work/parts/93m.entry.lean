/-! THE LAW'S ENTRY: what the Statement gives of the start -/
theorem va_AOA.moved {ty : FieldType} {u U : State} (hvm : u.vm.Alike U.vm) (h : va_AOA ty u) : va_AOA ty U := Jvm.Stand.arrayOver_alikeB hvm h
def sl_Z (jK jV jT : Nat → Nat) (sb L : Nat) (xs : Nat → Int32) (A : Nat → Prop) (U : State) (H : Heap) : Prop := sg_Zn U ∧ sg_Zs A U H ∧ sg_Zj jK jV jT A U H ∧ sg_Zc U ∧ va_Nw (.castable "[B" "java/lang/Cloneable") U ∧ va_T .int sb L (fun j => .int (xs j)) A U H ∧ ((vk_R RL 116 "" (jK 8) U ∧ vk_R RL 118 " " (jK 9) U) ∧ vk_R RL 134 ":" (jK 10) U ∧ vk_R RL 136 "s" (jK 11) U ∧ vk_R RL 138 "r" (jK 12) U ∧ vk_R RL 140 "u" (jK 13) U ∧ vk_R RL 142 "a" (jK 14) U)
theorem sl_Zok (jK jV jT : Nat → Nat) (sb L : Nat) (xs : Nat → Int32) : sg_Zok (sl_Z jK jV jT sb L xs) := by
  refine ⟨fun A u U H hW h => ?_, fun A U H H1 h hq => ?_, fun A B U H h hAB => ?_, fun A U H h => h.1, fun A U H h => h.2.1⟩
  · obtain ⟨⟨a1, a2, a3, a4⟩, ⟨t, b1, b2⟩, ⟨c1, c2, c3, c4, ⟨c5, c6⟩, c7, c8⟩, ⟨⟨d1, d2, d3, d4, d5⟩, e1, e2⟩, f1, f2, ⟨g1, g2⟩, g3, g4, g5, g6, g7⟩ := h
    exact ⟨⟨a1.warmM hW, a2.warmM hW, a3.warmM hW, a4.warmF hW⟩, ⟨t, b1.moved hW.alike, b2.moved hW.alike⟩, ⟨c1.moved hW.alike, c2.moved hW.alike, c3.moved hW.alike, fun k hk => (c4 k hk).warm hW, ⟨c5.moved hW.alike, c6.moved hW.alike⟩, c7.moved hW.alike, c8.moved hW.alike⟩, ⟨⟨d1.warmM hW, d2.warmM hW, d3.warmM hW, d4.warmM hW, d5.warmM hW⟩, e1.moved hW.alike, e2.moved hW.alike⟩, f1.warmC hW, f2.moved hW.alike, ⟨g1.warm hW, g2.warm hW⟩, g3.warm hW, g4.warm hW, g5.warm hW, g6.warm hW, g7.warm hW⟩
  · obtain ⟨a, ⟨t, b1, b2⟩, ⟨c1, c2, c3, c4, ⟨c5, c6⟩, c7, c8⟩, d, f1, f2, g⟩ := h
    exact ⟨a, ⟨t, b1.kept hq, b2.kept hq⟩, ⟨c1.kept hq, c2.kept hq, c3.kept hq, c4, ⟨c5.kept hq, c6.kept hq⟩, c7.kept hq, c8.kept hq⟩, d, f1, f2.kept hq, g⟩
  · obtain ⟨a, ⟨t, b1, b2⟩, ⟨c1, c2, c3, c4, ⟨c5, c6⟩, c7, c8⟩, d, f1, f2, g⟩ := h
    exact ⟨a, ⟨t, b1.narrow hAB, b2.narrow hAB⟩, ⟨c1.narrow hAB, c2.narrow hAB, c3.narrow hAB, c4, ⟨c5.narrow hAB, c6.narrow hAB⟩, c7.narrow hAB, c8.narrow hAB⟩, d, f1, f2.narrow hAB, g⟩
section SLZ
variable (jK jV jT : Nat → Nat) (sb L : Nat) (xs : Nat → Int32)
theorem sl_ZJ : sg_ZJ (sl_Z jK jV jT sb L xs) jK jV jT := fun _ _ _ h => h.2.2.1
theorem sl_ZN : sg_ZN (sl_Z jK jV jT sb L xs) := fun _ _ _ h => h.2.2.2.1
theorem sl_Zb : sg_Zb (sl_Z jK jV jT sb L xs) := fun _ _ _ h => h.2.2.2.2.1
theorem sl_ZX (hL : L ≤ 260) : sg_ZX (sl_Z jK jV jT sb L xs) sb L xs := ⟨hL, fun _ _ _ h => h.2.2.2.2.2.1⟩
theorem sl_ZL : sg_ZL (sl_Z jK jV jT sb L xs) jK := fun _ _ _ h => h.2.2.2.2.2.2
end SLZ
/-- the premises, one by one -/
def sl_L : List Cond := flatC (Jvm.Cond.and given_1 narrow_1)
set_option maxRecDepth 20000 in
theorem sl_cJ0 : ∀ w ∈ u_ws RJ0 TJ0 4, w ∈ lw_tbl := by decide +kernel
theorem sl_nJ0 : Cond.instantiable RJ0 4 ∈ lw_tbl := by decide +kernel
set_option maxRecDepth 20000 in
theorem sl_cJ4 : ∀ w ∈ u_ws RJ4 TJ4 4, w ∈ lw_tbl := by decide +kernel
theorem sl_nJ4 : Cond.instantiable RJ4 4 ∈ lw_tbl := by decide +kernel
set_option maxRecDepth 20000 in
theorem sl_cX0 : ∀ w ∈ u_ws RX0 TX0 8, w ∈ lw_tbl := by decide +kernel
theorem sl_nX0 : Cond.instantiable RX0 8 ∈ lw_tbl := by decide +kernel
set_option maxRecDepth 20000 in
theorem sl_cX1 : ∀ w ∈ u_ws RX1 TX1 4, w ∈ lw_tbl := by decide +kernel
theorem sl_nX1 : Cond.instantiable RX1 4 ∈ lw_tbl := by decide +kernel
set_option maxRecDepth 20000 in
theorem sl_cX2 : ∀ w ∈ u_ws RX2 TX2 3, w ∈ lw_tbl := by decide +kernel
theorem sl_nX2 : Cond.instantiable RX2 3 ∈ lw_tbl := by decide +kernel
set_option maxRecDepth 20000 in
theorem sl_cX3 : ∀ w ∈ u_ws RX3 TX3 8, w ∈ lw_tbl := by decide +kernel
theorem sl_nX3 : Cond.instantiable RX3 8 ∈ lw_tbl := by decide +kernel
set_option maxRecDepth 20000 in
theorem sl_cX4 : ∀ w ∈ u_ws RX4 TX4 4, w ∈ lw_tbl := by decide +kernel
theorem sl_nX4 : Cond.instantiable RX4 4 ∈ lw_tbl := by decide +kernel
set_option maxRecDepth 20000 in
theorem sl_cX5 : ∀ w ∈ u_ws RX5 TX5 5, w ∈ lw_tbl := by decide +kernel
theorem sl_nX5 : Cond.instantiable RX5 5 ∈ lw_tbl := by decide +kernel
set_option maxRecDepth 20000 in
theorem sl_cX6 : ∀ w ∈ u_ws RX6 TX6 2, w ∈ lw_tbl := by decide +kernel
theorem sl_nX6 : Cond.instantiable RX6 2 ∈ lw_tbl := by decide +kernel
set_option maxRecDepth 20000 in
theorem sl_cX7 : ∀ w ∈ u_ws RX7 TX7 10, w ∈ lw_tbl := by decide +kernel
theorem sl_nX7 : Cond.instantiable RX7 10 ∈ lw_tbl := by decide +kernel
set_option maxRecDepth 20000 in
theorem sl_cX8 : ∀ w ∈ u_ws RX8 TX8 1, w ∈ lw_tbl := by decide +kernel
theorem sl_nX8 : Cond.instantiable RX8 1 ∈ lw_tbl := by decide +kernel
theorem sl_ai : Cond.arrayClass .int ∈ lw_tbl := by decide +kernel
theorem sl_ab : Cond.arrayClass .byte ∈ lw_tbl := by decide +kernel
theorem sl_oR : Cond.arrayOver (.object RX3) ∈ lw_tbl := by decide +kernel
theorem sl_oA : Cond.arrayOver (.array .int) ∈ lw_tbl := by decide +kernel
theorem sl_arrC {s : State} {args : Array Value} {ty : FieldType} (hty : ∀ C, ty ≠ .object C) (h : (Cond.arrayClass ty).before args s = true) : ∃ c, ArrOfT s c ty ∧ va_RA s c ty := by
  obtain ⟨c, k, comp, h1, h2, h3⟩ := Cond.arrayClass_spec h
  refine ⟨c, fun n z => ⟨fun k h => (by cases h), k, h2, comp, h3⟩, ?_⟩
  cases ty with
  | object C => exact absurd rfl (hty C)
  | _ => exact h1
theorem sl_arrR {s : State} {args : Array Value} {C : String} (h : (Cond.arrayOver (.object C)).before args s = true) : ∃ c, ArrOfT s c (.object C) ∧ va_RA s c (.object C) := by
  obtain ⟨comp, c, k, h1, h2, h3, h4, h5⟩ := Cond.arrayOver_spec h
  exact ⟨c, fun n z => ⟨fun k h => (by cases h), k, h3, comp, h4⟩, k, comp, h3, h4, h1, h5⟩
theorem sl_arrA {s : State} {args : Array Value} {ty : FieldType} (h : (Cond.arrayOver (.array ty)).before args s = true) : ∃ c, ArrOfT s c (.array ty) ∧ va_RA s c (.array ty) := by
  obtain ⟨comp, c, k, h1, h2, h3, h4⟩ := Cond.arrayOver_specA h
  exact ⟨c, fun n z => ⟨fun k h => (by cases h), k, h2, comp, h3⟩, h4⟩
theorem sl_K {s : State} {args : Array Value} (hts : ∀ w ∈ lw_tbl, w.before args s = true) : ∃ (D : va_G) (Y : Nat → ClassId), va_K D vwCl (sg_T Y) s := by
  obtain ⟨c0, i0, h0⟩ := u_known hts sl_cJ0 (hts _ sl_nJ0)
  obtain ⟨c1, i1, h1⟩ := u_known hts sl_cJ4 (hts _ sl_nJ4)
  obtain ⟨c2, i2, h2⟩ := u_known hts sl_cX0 (hts _ sl_nX0)
  obtain ⟨c3, i3, h3⟩ := u_known hts sl_cX1 (hts _ sl_nX1)
  obtain ⟨c4, i4, h4⟩ := u_known hts sl_cX2 (hts _ sl_nX2)
  obtain ⟨c5, i5, h5⟩ := u_known hts sl_cX3 (hts _ sl_nX3)
  obtain ⟨c6, i6, h6⟩ := u_known hts sl_cX4 (hts _ sl_nX4)
  obtain ⟨c7, i7, h7⟩ := u_known hts sl_cX5 (hts _ sl_nX5)
  obtain ⟨c8, i8, h8⟩ := u_known hts sl_cX6 (hts _ sl_nX6)
  obtain ⟨c9, i9, h9⟩ := u_known hts sl_cX7 (hts _ sl_nX7)
  obtain ⟨c10, i10, h10⟩ := u_known hts sl_cX8 (hts _ sl_nX8)
  obtain ⟨a0, b0, d0⟩ := sl_arrC (ty := .int) (fun C h => by cases h) (hts _ sl_ai)
  obtain ⟨a1, b1, d1⟩ := sl_arrC (ty := .byte) (fun C h => by cases h) (hts _ sl_ab)
  obtain ⟨a2, b2, d2⟩ := sl_arrR (hts _ sl_oR)
  obtain ⟨a3, b3, d3⟩ := sl_arrA (hts _ sl_oA)
  refine ⟨(fun k => match k with | 0 => c0 | 1 => c1 | 2 => c2 | 3 => c3 | 4 => c4 | 5 => c5 | 6 => c6 | 7 => c7 | 8 => c8 | 9 => c9 | _ => c10, fun k => match k with | 0 => i0 | 1 => i1 | 2 => i2 | 3 => i3 | 4 => i4 | 5 => i5 | 6 => i6 | 7 => i7 | 8 => i8 | 9 => i9 | _ => i10), (fun k => match k with | 0 => a0 | 1 => a1 | 2 => a2 | _ => a3), fun c q hq => ?_, fun k q hk => ?_⟩
  · have hl : c < 11 := (List.getElem?_eq_some_iff.mp hq).1
    rcases (show c = 0 ∨ c = 1 ∨ c = 2 ∨ c = 3 ∨ c = 4 ∨ c = 5 ∨ c = 6 ∨ c = 7 ∨ c = 8 ∨ c = 9 ∨ c = 10 by omega) with rfl | rfl | rfl | rfl | rfl | rfl | rfl | rfl | rfl | rfl | rfl
    all_goals (have e := Option.some.inj hq; rw [← e])
    · exact h0
    · exact h1
    · exact h2
    · exact h3
    · exact h4
    · exact h5
    · exact h6
    · exact h7
    · exact h8
    · exact h9
    · exact h10
  · have hl : k < 4 := (List.getElem?_eq_some_iff.mp hk).1
    rcases (show k = 0 ∨ k = 1 ∨ k = 2 ∨ k = 3 by omega) with rfl | rfl | rfl | rfl
    all_goals (have e := Option.some.inj hk; rw [← e])
    · exact ⟨b0, d0⟩
    · exact ⟨b1, d1⟩
    · exact ⟨b2, d2⟩
    · exact ⟨b3, d3⟩
theorem sl_t1 : Cond.methodLinkNest RX6 24 yX7_isTown RX7 ∈ lw_tbl := by decide +kernel
theorem sl_t2 : Cond.methodLinkNest RX3 65 yX7_isTown RX7 ∈ lw_tbl := by decide +kernel
theorem sl_t3 : Cond.methodLinkNest RX3 80 yX7_sumOf RX7 ∈ lw_tbl := by decide +kernel
theorem sl_t4 : Cond.fieldLinkNest RX3 117 RX7 "SUN_OF_MONTHS" "[I" RX7 ∈ lw_tbl := by decide +kernel
theorem sl_t5 : Cond.methodLinkNest RX3 30 yX6_init RX7 ∈ lw_tbl := by decide +kernel
theorem sl_t6 : Cond.methodLinkNest RX3 37 yX1_init RX7 ∈ lw_tbl := by decide +kernel
theorem sl_t7 : Cond.methodLinkNest RX3 44 yX0_init RX7 ∈ lw_tbl := by decide +kernel
theorem sl_t8 : Cond.methodLinkNest RX7 38 yX5_init RX7 ∈ lw_tbl := by decide +kernel
theorem sl_t9 : Cond.methodLinkNest RX7 52 yX4_init RX7 ∈ lw_tbl := by decide +kernel
theorem sl_s1 : Cond.laysStatic "java/lang/String" "COMPACT_STRINGS" "Z" ∈ lw_tbl := by decide +kernel
theorem sl_s2 : Cond.initialized "java/lang/String" ∈ lw_tbl := by decide +kernel
theorem sl_s3 : Cond.laysStatic RX7 "SUN_OF_MONTHS" "[I" ∈ lw_tbl := by decide +kernel
theorem sl_s4 : Cond.initialized RX7 ∈ lw_tbl := by decide +kernel
theorem sl_s5 : Cond.laysStatic "jdk/internal/util/Preconditions" "SIOOBE_FORMATTER" "Ljava/util/function/BiFunction;" ∈ lw_tbl := by decide +kernel
theorem sl_s6 : Cond.initialized "jdk/internal/util/Preconditions" ∈ lw_tbl := by decide +kernel
theorem sl_s7 : Cond.laysStatic "java/lang/Integer" "DigitTens" "[B" ∈ lw_tbl := by decide +kernel
theorem sl_s8 : Cond.laysStatic "java/lang/Integer" "DigitOnes" "[B" ∈ lw_tbl := by decide +kernel
theorem sl_s9 : Cond.initialized "java/lang/Integer" ∈ lw_tbl := by decide +kernel
theorem sl_sr : ∀ k, k < 8 → Cond.stringRef RX5 (34 + 2 * k) (sg_txt k) ∈ lw_tbl := by decide +kernel
theorem sl_cb : Cond.castable "[B" "java/lang/Cloneable" ∈ lw_tbl := by decide +kernel
theorem sl_r8 : Cond.stringRef RL 116 "" ∈ lw_tbl := by decide +kernel
theorem sl_r9 : Cond.stringRef RL 118 " " ∈ lw_tbl := by decide +kernel
theorem sl_r10 : Cond.stringRef RL 134 ":" ∈ lw_tbl := by decide +kernel
theorem sl_r11 : Cond.stringRef RL 136 "s" ∈ lw_tbl := by decide +kernel
theorem sl_r12 : Cond.stringRef RL 138 "r" ∈ lw_tbl := by decide +kernel
theorem sl_r13 : Cond.stringRef RL 140 "u" ∈ lw_tbl := by decide +kernel
theorem sl_r14 : Cond.stringRef RL 142 "a" ∈ lw_tbl := by decide +kernel
theorem sl_p2 : Cond.eq (.static "java/lang/String" "COMPACT_STRINGS" "Z") (.int 1) ∈ sl_L := List.mem_of_getElem? (i := 4) (by decide +kernel)
theorem sl_p4 : Cond.arrayOf (.static RX7 "SUN_OF_MONTHS" "[I") .int ∈ sl_L := List.mem_of_getElem? (i := 6) (by decide +kernel)
theorem sl_p5 : Cond.eq (.length (.static RX7 "SUN_OF_MONTHS" "[I")) (.int (Int32.ofNat 12)) ∈ sl_L := List.mem_of_getElem? (i := 7) (by decide +kernel)
theorem sl_p19 : Cond.arrayOf (.static "java/lang/Integer" "DigitOnes" "[B") .byte ∈ sl_L := List.mem_of_getElem? (i := 25) (by decide +kernel)
theorem sl_p20 : Cond.eq (.length (.static "java/lang/Integer" "DigitOnes" "[B")) (.int (Int32.ofNat 100)) ∈ sl_L := List.mem_of_getElem? (i := 26) (by decide +kernel)
theorem sl_p122 : Cond.arrayOf (.static "java/lang/Integer" "DigitTens" "[B") .byte ∈ sl_L := List.mem_of_getElem? (i := 128) (by decide +kernel)
theorem sl_p123 : Cond.eq (.length (.static "java/lang/Integer" "DigitTens" "[B")) (.int (Int32.ofNat 100)) ∈ sl_L := List.mem_of_getElem? (i := 129) (by decide +kernel)
theorem sl_p224 : Cond.isRef (.static "jdk/internal/util/Preconditions" "SIOOBE_FORMATTER" "Ljava/util/function/BiFunction;") ∈ sl_L := List.mem_of_getElem? (i := 20) (by decide +kernel)
set_option maxRecDepth 20000 in
theorem sl_e1 : ∀ j, j < 12 → Cond.eq (.elem (.static RX7 "SUN_OF_MONTHS" "[I") (.int (Int32.ofNat j))) (.int (sg_sun j)) ∈ sl_L := fun j hj => va_run (N := 12) (p := 8) (f := fun j => Cond.eq (.elem (.static RX7 "SUN_OF_MONTHS" "[I") (.int (Int32.ofNat j))) (.int (sg_sun j))) (by decide +kernel) j hj
set_option maxRecDepth 20000 in
theorem sl_e2 : ∀ j, j < 100 → Cond.eq (.elem (.static "java/lang/Integer" "DigitOnes" "[B") (.int (Int32.ofNat j))) (.int (sg_one j)) ∈ sl_L := fun j hj => va_run (N := 100) (p := 27) (f := fun j => Cond.eq (.elem (.static "java/lang/Integer" "DigitOnes" "[B") (.int (Int32.ofNat j))) (.int (sg_one j))) (by decide +kernel) j hj
set_option maxRecDepth 20000 in
theorem sl_e3 : ∀ j, j < 100 → Cond.eq (.elem (.static "java/lang/Integer" "DigitTens" "[B") (.int (Int32.ofNat j))) (.int (sg_ten j)) ∈ sl_L := fun j hj => va_run (N := 100) (p := 130) (f := fun j => Cond.eq (.elem (.static "java/lang/Integer" "DigitTens" "[B") (.int (Int32.ofNat j))) (.int (sg_ten j))) (by decide +kernel) j hj
def sl_tm (i : Nat) : Term := if i < 8 then .string RX5 (34 + 2 * i) else .string RL (([116, 118, 134, 136, 138, 140, 142] : List Nat).getD (i - 8) 0)
theorem sl_x0 : ∀ i, i < 15 → sl_L[([245, 259, 271, 289, 303, 319, 336, 351, 367, 379, 393, 408, 424, 441, 459] : List Nat).getD i 0]? = some (Cond.exactly (sl_tm i) "java/lang/String") := by decide +kernel
theorem sl_x : ∀ i, i < 15 → Cond.exactly (sl_tm i) "java/lang/String" ∈ sl_L := fun i hi => List.mem_of_getElem? (sl_x0 i hi)
theorem sl_y0 : ∀ i, i < 15 → sl_L[([246, 260, 272, 290, 304, 320, 337, 352, 368, 380, 394, 409, 425, 442, 460] : List Nat).getD i 0]? = some (Cond.eq (.field (sl_tm i) "java/lang/String" "coder" "B") (.int 0)) := by decide +kernel
theorem sl_y : ∀ i, i < 15 → Cond.eq (.field (sl_tm i) "java/lang/String" "coder" "B") (.int 0) ∈ sl_L := fun i hi => List.mem_of_getElem? (sl_y0 i hi)
theorem sl_z0 : ∀ i, i < 15 → sl_L[([247, 261, 273, 291, 305, 321, 338, 353, 369, 381, 395, 410, 426, 443, 461] : List Nat).getD i 0]? = some (Cond.arrayOf (.field (sl_tm i) "java/lang/String" "value" "[B") .byte) := by decide +kernel
theorem sl_z : ∀ i, i < 15 → Cond.arrayOf (.field (sl_tm i) "java/lang/String" "value" "[B") .byte ∈ sl_L := fun i hi => List.mem_of_getElem? (sl_z0 i hi)
theorem sl_l0 : ∀ i, i < 15 → sl_L[([248, 262, 274, 292, 306, 322, 339, 354, 370, 382, 396, 411, 427, 444, 462] : List Nat).getD i 0]? = some (Cond.eq (.length (.field (sl_tm i) "java/lang/String" "value" "[B")) (.int (Int32.ofNat (sg_len.getD i 0)))) := by decide +kernel
theorem sl_l : ∀ i, i < 15 → Cond.eq (.length (.field (sl_tm i) "java/lang/String" "value" "[B")) (.int (Int32.ofNat (sg_len.getD i 0))) ∈ sl_L := fun i hi => List.mem_of_getElem? (sl_l0 i hi)
set_option maxRecDepth 20000 in
theorem sl_b0 : ∀ j, j < 10 → Cond.eq (.elem (.field (sl_tm 0) "java/lang/String" "value" "[B") (.int (Int32.ofNat j))) (.int ((sg_byt.getD 0 []).getD j 0)) ∈ sl_L := fun j hj => va_run (N := 10) (p := 249) (f := fun j => Cond.eq (.elem (.field (sl_tm 0) "java/lang/String" "value" "[B") (.int (Int32.ofNat j))) (.int ((sg_byt.getD 0 []).getD j 0))) (by decide +kernel) j hj
set_option maxRecDepth 20000 in
theorem sl_b1 : ∀ j, j < 7 → Cond.eq (.elem (.field (sl_tm 1) "java/lang/String" "value" "[B") (.int (Int32.ofNat j))) (.int ((sg_byt.getD 1 []).getD j 0)) ∈ sl_L := fun j hj => va_run (N := 7) (p := 263) (f := fun j => Cond.eq (.elem (.field (sl_tm 1) "java/lang/String" "value" "[B") (.int (Int32.ofNat j))) (.int ((sg_byt.getD 1 []).getD j 0))) (by decide +kernel) j hj
set_option maxRecDepth 20000 in
theorem sl_b2 : ∀ j, j < 12 → Cond.eq (.elem (.field (sl_tm 2) "java/lang/String" "value" "[B") (.int (Int32.ofNat j))) (.int ((sg_byt.getD 2 []).getD j 0)) ∈ sl_L := fun j hj => va_run (N := 12) (p := 275) (f := fun j => Cond.eq (.elem (.field (sl_tm 2) "java/lang/String" "value" "[B") (.int (Int32.ofNat j))) (.int ((sg_byt.getD 2 []).getD j 0))) (by decide +kernel) j hj
set_option maxRecDepth 20000 in
theorem sl_b3 : ∀ j, j < 7 → Cond.eq (.elem (.field (sl_tm 3) "java/lang/String" "value" "[B") (.int (Int32.ofNat j))) (.int ((sg_byt.getD 3 []).getD j 0)) ∈ sl_L := fun j hj => va_run (N := 7) (p := 293) (f := fun j => Cond.eq (.elem (.field (sl_tm 3) "java/lang/String" "value" "[B") (.int (Int32.ofNat j))) (.int ((sg_byt.getD 3 []).getD j 0))) (by decide +kernel) j hj
set_option maxRecDepth 20000 in
theorem sl_b4 : ∀ j, j < 8 → Cond.eq (.elem (.field (sl_tm 4) "java/lang/String" "value" "[B") (.int (Int32.ofNat j))) (.int ((sg_byt.getD 4 []).getD j 0)) ∈ sl_L := fun j hj => va_run (N := 8) (p := 307) (f := fun j => Cond.eq (.elem (.field (sl_tm 4) "java/lang/String" "value" "[B") (.int (Int32.ofNat j))) (.int ((sg_byt.getD 4 []).getD j 0))) (by decide +kernel) j hj
set_option maxRecDepth 20000 in
theorem sl_b5 : ∀ j, j < 8 → Cond.eq (.elem (.field (sl_tm 5) "java/lang/String" "value" "[B") (.int (Int32.ofNat j))) (.int ((sg_byt.getD 5 []).getD j 0)) ∈ sl_L := fun j hj => va_run (N := 8) (p := 323) (f := fun j => Cond.eq (.elem (.field (sl_tm 5) "java/lang/String" "value" "[B") (.int (Int32.ofNat j))) (.int ((sg_byt.getD 5 []).getD j 0))) (by decide +kernel) j hj
set_option maxRecDepth 20000 in
theorem sl_b6 : ∀ j, j < 5 → Cond.eq (.elem (.field (sl_tm 6) "java/lang/String" "value" "[B") (.int (Int32.ofNat j))) (.int ((sg_byt.getD 6 []).getD j 0)) ∈ sl_L := fun j hj => va_run (N := 5) (p := 340) (f := fun j => Cond.eq (.elem (.field (sl_tm 6) "java/lang/String" "value" "[B") (.int (Int32.ofNat j))) (.int ((sg_byt.getD 6 []).getD j 0))) (by decide +kernel) j hj
set_option maxRecDepth 20000 in
theorem sl_b7 : ∀ j, j < 5 → Cond.eq (.elem (.field (sl_tm 7) "java/lang/String" "value" "[B") (.int (Int32.ofNat j))) (.int ((sg_byt.getD 7 []).getD j 0)) ∈ sl_L := fun j hj => va_run (N := 5) (p := 355) (f := fun j => Cond.eq (.elem (.field (sl_tm 7) "java/lang/String" "value" "[B") (.int (Int32.ofNat j))) (.int ((sg_byt.getD 7 []).getD j 0))) (by decide +kernel) j hj
set_option maxRecDepth 20000 in
theorem sl_b9 : ∀ j, j < 1 → Cond.eq (.elem (.field (sl_tm 9) "java/lang/String" "value" "[B") (.int (Int32.ofNat j))) (.int ((sg_byt.getD 9 []).getD j 0)) ∈ sl_L := fun j hj => va_run (N := 1) (p := 383) (f := fun j => Cond.eq (.elem (.field (sl_tm 9) "java/lang/String" "value" "[B") (.int (Int32.ofNat j))) (.int ((sg_byt.getD 9 []).getD j 0))) (by decide +kernel) j hj
set_option maxRecDepth 20000 in
theorem sl_b10 : ∀ j, j < 1 → Cond.eq (.elem (.field (sl_tm 10) "java/lang/String" "value" "[B") (.int (Int32.ofNat j))) (.int ((sg_byt.getD 10 []).getD j 0)) ∈ sl_L := fun j hj => va_run (N := 1) (p := 397) (f := fun j => Cond.eq (.elem (.field (sl_tm 10) "java/lang/String" "value" "[B") (.int (Int32.ofNat j))) (.int ((sg_byt.getD 10 []).getD j 0))) (by decide +kernel) j hj
set_option maxRecDepth 20000 in
theorem sl_b11 : ∀ j, j < 1 → Cond.eq (.elem (.field (sl_tm 11) "java/lang/String" "value" "[B") (.int (Int32.ofNat j))) (.int ((sg_byt.getD 11 []).getD j 0)) ∈ sl_L := fun j hj => va_run (N := 1) (p := 412) (f := fun j => Cond.eq (.elem (.field (sl_tm 11) "java/lang/String" "value" "[B") (.int (Int32.ofNat j))) (.int ((sg_byt.getD 11 []).getD j 0))) (by decide +kernel) j hj
set_option maxRecDepth 20000 in
theorem sl_b12 : ∀ j, j < 1 → Cond.eq (.elem (.field (sl_tm 12) "java/lang/String" "value" "[B") (.int (Int32.ofNat j))) (.int ((sg_byt.getD 12 []).getD j 0)) ∈ sl_L := fun j hj => va_run (N := 1) (p := 428) (f := fun j => Cond.eq (.elem (.field (sl_tm 12) "java/lang/String" "value" "[B") (.int (Int32.ofNat j))) (.int ((sg_byt.getD 12 []).getD j 0))) (by decide +kernel) j hj
set_option maxRecDepth 20000 in
theorem sl_b13 : ∀ j, j < 1 → Cond.eq (.elem (.field (sl_tm 13) "java/lang/String" "value" "[B") (.int (Int32.ofNat j))) (.int ((sg_byt.getD 13 []).getD j 0)) ∈ sl_L := fun j hj => va_run (N := 1) (p := 445) (f := fun j => Cond.eq (.elem (.field (sl_tm 13) "java/lang/String" "value" "[B") (.int (Int32.ofNat j))) (.int ((sg_byt.getD 13 []).getD j 0))) (by decide +kernel) j hj
set_option maxRecDepth 20000 in
theorem sl_b14 : ∀ j, j < 1 → Cond.eq (.elem (.field (sl_tm 14) "java/lang/String" "value" "[B") (.int (Int32.ofNat j))) (.int ((sg_byt.getD 14 []).getD j 0)) ∈ sl_L := fun j hj => va_run (N := 1) (p := 463) (f := fun j => Cond.eq (.elem (.field (sl_tm 14) "java/lang/String" "value" "[B") (.int (Int32.ofNat j))) (.int ((sg_byt.getD 14 []).getD j 0))) (by decide +kernel) j hj
theorem sl_b : ∀ i, i < 15 → ∀ j, j < sg_len.getD i 0 → Cond.eq (.elem (.field (sl_tm i) "java/lang/String" "value" "[B") (.int (Int32.ofNat j))) (.int ((sg_byt.getD i []).getD j 0)) ∈ sl_L := by
  intro i hi j hj
  rcases (show i = 0 ∨ i = 1 ∨ i = 2 ∨ i = 3 ∨ i = 4 ∨ i = 5 ∨ i = 6 ∨ i = 7 ∨ i = 8 ∨ i = 9 ∨ i = 10 ∨ i = 11 ∨ i = 12 ∨ i = 13 ∨ i = 14 by omega) with rfl | rfl | rfl | rfl | rfl | rfl | rfl | rfl | rfl | rfl | rfl | rfl | rfl | rfl | rfl
  · exact sl_b0 j hj
  · exact sl_b1 j hj
  · exact sl_b2 j hj
  · exact sl_b3 j hj
  · exact sl_b4 j hj
  · exact sl_b5 j hj
  · exact sl_b6 j hj
  · exact sl_b7 j hj
  · exact absurd hj (Nat.not_lt_zero j)
  · exact sl_b9 j hj
  · exact sl_b10 j hj
  · exact sl_b11 j hj
  · exact sl_b12 j hj
  · exact sl_b13 j hj
  · exact sl_b14 j hj
def sl_dp : List (List Nat) := [[], [270], [287, 288], [300, 301, 302], [315, 316, 317, 318], [331, 332, 333, 334, 335], [345, 346, 347, 348, 349, 350], [360, 361, 362, 363, 364, 365, 366], [371, 372, 373, 374, 375, 376, 377, 378], [384, 385, 386, 387, 388, 389, 390, 391, 392], [398, 399, 400, 401, 402, 403, 404, 405, 406, 407], [413, 414, 415, 416, 417, 418, 419, 420, 421, 422, 423], [429, 430, 431, 432, 433, 434, 435, 436, 437, 438, 439, 440], [446, 447, 448, 449, 450, 451, 452, 453, 454, 455, 456, 457, 458], [464, 465, 466, 467, 468, 469, 470, 471, 472, 473, 474, 475, 476, 477]]
theorem sl_d0 : ∀ i, i < 15 → ∀ j, j < i → sl_L[(sl_dp.getD i []).getD j 0]? = some (Cond.not (Cond.eq (sl_tm j) (sl_tm i))) := by decide +kernel
theorem sl_d : ∀ i, i < 15 → ∀ j, j < 15 → i ≠ j → (Cond.not (Cond.eq (sl_tm i) (sl_tm j)) ∈ sl_L ∨ Cond.not (Cond.eq (sl_tm j) (sl_tm i)) ∈ sl_L) := fun i hi j hj hij => by
  rcases (by omega : j < i ∨ i < j) with h | h
  · exact Or.inr (List.mem_of_getElem? (sl_d0 i hi j h))
  · exact Or.inl (List.mem_of_getElem? (sl_d0 j hj i h))
theorem sl_T {s : State} {b L : Nat} {xs : Nat → Int32} (hX : va_X b L xs s s.heap) (hb : b < s.heap.size) (hL : L ≤ 260) : va_T .int b L (fun j => .int (xs j)) (fun q => s.heap.size ≤ q) s s.heap := by
  obtain ⟨scr, h1, h2, h3, h4, h5⟩ := hX
  refine ⟨scr, h1, h2, h3, by omega, by rw [h4], h5, Nat.not_le.mpr hb⟩
set_option maxHeartbeats 4000000 in
theorem sl_entry {s : State} {b L : Nat} {xs : Nat → Int32} (hX0 : va_X b L xs s s.heap) (hb0 : b < s.heap.size) (hL0 : L ≤ 260) (hts : ∀ w ∈ lw_tbl, w.before #[Value.ref b] s = true) (hg : (Jvm.Cond.and given_1 narrow_1).before #[Value.ref b] s = true) : ∃ (D : va_G) (Y : Nat → ClassId) (jK jV jT : Nat → Nat), va_K D vwCl (sg_T Y) s ∧ sl_Z jK jV jT b L xs (fun q => s.heap.size ≤ q) s s.heap := by
  have hL : ∀ w ∈ sl_L, w.before #[Value.ref b] s = true := flat_of_before _ hg
  have hA : ∀ a : Nat, a < s.heap.size → ¬ (fun q => s.heap.size ≤ q) a := fun a h => Nat.not_le.mpr h
  obtain ⟨D, Y, hK⟩ := sl_K hts
  obtain ⟨t, et, hT⟩ := va_Tof (N := 12) (f := fun j => .int (sg_sun j)) (A := fun q => s.heap.size ≤ q) (by decide) (hL _ sl_p4) (va_eqt (hL _ sl_p5)) (fun j hj => va_eqt (hL _ (sl_e1 j hj))) hA
  obtain ⟨t2, et2, hT2⟩ := va_Tof (N := 100) (f := fun j => .int (sg_one j)) (A := fun q => s.heap.size ≤ q) (by decide) (hL _ sl_p19) (va_eqt (hL _ sl_p20)) (fun j hj => va_eqt (hL _ (sl_e2 j hj))) hA
  obtain ⟨t3, et3, hT3⟩ := va_Tof (N := 100) (f := fun j => .int (sg_ten j)) (A := fun q => s.heap.size ≤ q) (by decide) (hL _ sl_p122) (va_eqt (hL _ sl_p123)) (fun j hj => va_eqt (hL _ (sl_e3 j hj))) hA
  obtain ⟨jK, jV, hS, hE⟩ := vk_Sof (N := 15) (tm := sl_tm) (len := sg_len) (byt := sg_byt) (A := fun q => s.heap.size ≤ q) (by decide +kernel) (fun i hi => hL _ (sl_x i hi)) (fun i hi => hL _ (sl_y i hi)) (fun i hi => hL _ (sl_z i hi)) (fun i hi => hL _ (sl_l i hi)) (fun i hi j hj => hL _ (sl_b i hi j hj)) (fun i j hi hj hij => (sl_d i hi j hj hij).elim (fun h => Or.inl (hL _ h)) (fun h => Or.inr (hL _ h))) hA
  refine ⟨D, Y, jK, jV, fun k => match k with | 0 => t3 | _ => t2, hK, ⟨va_Nw.of rfl (hts _ sl_t1), va_Nw.of rfl (hts _ sl_t2), va_Nw.of rfl (hts _ sl_t3), va_Nw.of rfl (hts _ sl_t4)⟩, ⟨t, va_Zref (hts _ sl_s3) (hts _ sl_s4) et hA, hT⟩, ⟨va_Zof (hts _ sl_s1) (hts _ sl_s2) (va_eqi (hL _ sl_p2)) hA, va_Zqof (hts _ sl_s5) (hts _ sl_s6) (hL _ sl_p224) hA, hS, fun k hk => vk_R.of (hts _ (sl_sr k hk)) (by have h := hE k (by omega); unfold sl_tm at h; rw [if_pos hk] at h; exact h), ⟨va_Zref (hts _ sl_s7) (hts _ sl_s9) et3 hA, hT3⟩, va_Zref (hts _ sl_s8) (hts _ sl_s9) et2 hA, hT2⟩, ⟨⟨va_Nw.of rfl (hts _ sl_t5), va_Nw.of rfl (hts _ sl_t6), va_Nw.of rfl (hts _ sl_t7), va_Nw.of rfl (hts _ sl_t8), va_Nw.of rfl (hts _ sl_t9)⟩, va_AO.of (hts _ sl_oR), va_AOA.of (hts _ sl_oA)⟩, va_Nw.of rfl (hts _ sl_cb), sl_T hX0 hb0 hL0, ⟨vk_R.of (hts _ sl_r8) (hE 8 (by decide)), vk_R.of (hts _ sl_r9) (hE 9 (by decide))⟩, vk_R.of (hts _ sl_r10) (hE 10 (by decide)), vk_R.of (hts _ sl_r11) (hE 11 (by decide)), vk_R.of (hts _ sl_r12) (hE 12 (by decide)), vk_R.of (hts _ sl_r13) (hE 13 (by decide)), vk_R.of (hts _ sl_r14) (hE 14 (by decide))⟩
