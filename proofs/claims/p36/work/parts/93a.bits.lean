/-! THE LAW: draws, and the script -/
theorem ksX8_init_o1 : Cond.methodLink RX8 1 Lib.objectInit ∈ wsX8_init := by decide +kernel
theorem ksX8_init_o2 : Cond.instanceMethod Lib.objectInit ∈ wsX8_init := by decide +kernel
theorem ksX8_init_o3 : Cond.code Lib.objectInit ⟨#[0xb1]⟩ 1 none ∈ wsX8_init := by decide +kernel
theorem ksX8_init_f7 : Cond.fieldLink RX8 7 "WeatherMinistryLaw$Bits" "bits" "I" ∈ wsX8_init := by decide +kernel
theorem ksX8_init_iX8 : ∀ w ∈ u_ws RX8 TX8 1, w ∈ wsX8_init := by decide +kernel
theorem ksX8_next_f7 : Cond.fieldLink RX8 7 "WeatherMinistryLaw$Bits" "bits" "I" ∈ wsX8_next := by decide +kernel
theorem ksX8_next_iX8 : ∀ w ∈ u_ws RX8 TX8 1, w ∈ wsX8_next := by decide +kernel
theorem ksX8_next_c13 : Cond.constant RX8 13 (1103515245) ∈ wsX8_next := by decide +kernel
theorem ksL_some_m1 : Cond.methodLink RL 29 Lib.Math.max.name ∈ wsL_some := by decide +kernel
theorem ksL_some_m2 : Cond.static Lib.Math.max.name ∈ wsL_some := by decide +kernel
theorem ksL_some_m3 : Cond.initialized "java/lang/Math" ∈ wsL_some := by decide +kernel
theorem ksL_some_m4 : Cond.code Lib.Math.max.name Lib.Math.max.code 2 (some .int) ∈ wsL_some := by decide +kernel
/-- the law's own draws -/
def bx_n (b : Int32) : Int32 := b * 1103515245 + 12345
def bx_W (a : Nat) (v : Int32) : va_W := [(a, .inr (10, [.int v]))]
def bx_r (b : Int32) (many : Nat) : Nat := (bx_n b).toUInt32.toNat / 65536 % many
theorem bx_lt (b : Int32) {many : Nat} (h : 1 ≤ many) : bx_r b many < many := Nat.mod_lt _ (by omega)
theorem bx_sh (x : Int32) : (x.toUInt32 >>> ((16 : Int32).toUInt32 &&& Int32.toUInt32 31)).toInt32 = nb (x.toUInt32.toNat / 65536) := by
  have h : x.toUInt32 >>> ((16 : Int32).toUInt32 &&& Int32.toUInt32 31) = UInt32.ofNat (x.toUInt32.toNat / 65536) := by
    apply UInt32.toNat_inj.mp
    have h1 := x.toUInt32.toNat_lt
    rw [UInt32.toNat_shiftRight, UInt32.toNat_ofNat_of_lt' (by show _ < 4294967296; omega)]
    show x.toUInt32.toNat >>> 16 = _
    rw [Nat.shiftRight_eq_div_pow]
  rw [h]
  rfl
theorem bx_rem {a many : Nat} (ha : a < 2147483648) (hm : many < 2147483648) : nb a - nb a / nb many * nb many = nb (a % many) := by
  rw [nb_div ha hm, nb_mul, nb_sub (Nat.div_mul_le_self a many)]
  congr 1
  have := Nat.div_add_mod a many
  rw [Nat.mul_comm] at this
  omega
theorem bx_max (n : Nat) (h : n < 2147483648) : (if (nb 1) < nb n then nb n else (nb 1)) = nb (max 1 n) := by
  by_cases e : 1 < n
  · rw [if_pos (nb_lt_t e h), Nat.max_eq_right (by omega)]
  · rw [if_neg (nb_lt_f (by omega) (by decide)), Nat.max_eq_left (by omega)]
set_option maxHeartbeats 4000000 in
set_option maxRecDepth 100000 in
theorem k_bits (l : Launch) {D : va_G} {Y : Nat → ClassId} {Z : (Nat → Prop) → State → Heap → Prop} (hZ : sg_Zok Z) {a : Nat} {v : Int32} : sg_XV l yX8_init wsX8_init 1 12 0 0 D Y Z [.ref a, .int v] (bx_W a 0) (fun _ : Unit => True) (fun _ => bx_W a v) := by
  intro sz
  refine sg_enterX (own := RX8) (maxL := 2) (ret := none) (cc := cX8_init) (by decide +kernel) rfl rfl (Nat.le_of_ble_eq_true rfl) hZ ?_
  intro p e s m args below meth c C hr hin Q hQ hsz
  refine g_lv (lv2 := [(0, .ref a), (1, .int v)]) [0, 1] rfl ?_
  refine g_aload_n 1 C dX8_init_0 rfl rfl rfl ?_
  refine g_objInit 4 C ksX8_init_o1 ksX8_init_o2 ksX8_init_o3 (Nat.le_of_ble_eq_true rfl) (Nat.le_of_ble_eq_true rfl) dX8_init_1 rfl ?_
  refine g_aload_n 5 C dX8_init_4 rfl rfl rfl ?_
  refine g_iload_n 6 C dX8_init_5 rfl rfl rfl ?_
  refine g_put 9 C (own := RX8) (C1 := RX8) (T := TX8) (w2 := bx_W a v) 0 0 tyX8 tyX8_ok nmX8 ksX8_init_iX8 ksX8_init_f7 rfl rfl (ty := .int) (by decide) rfl rfl (sg_blt rfl) dX8_init_6 rfl rfl rfl (by decide) rfl ?_
  exact g_vretX (P := fun (_ : Unit) => True) (w' := fun _ => bx_W a v) () C hr hQ hsz dX8_init_9 trivial rfl
set_option maxHeartbeats 4000000 in
set_option maxRecDepth 100000 in
theorem k_next (l : Launch) {D : va_G} {Y : Nat → ClassId} {Z : (Nat → Prop) → State → Heap → Prop} (hZ : sg_Zok Z) {a many : Nat} {v : Int32} (h1 : 1 ≤ many) (h2 : many < 2147483648) : sg_MI l yX8_next wsX8_next 0 0 D Y Z [.ref a, .int (nb many)] (bx_W a v) (nb (bx_r v many)) (bx_W a (bx_n v)) := by
  intro sz
  refine sg_enter (own := RX8) (maxL := 2) (ret := (some .int)) (cc := cX8_next) (by decide +kernel) rfl rfl (Nat.le_of_ble_eq_true rfl) hZ ?_
  intro p e s m args below meth c C hr Q hQ hsz
  refine g_lv (lv2 := [(0, .ref a), (1, .int (nb many))]) [0, 1] rfl ?_
  refine g_aload_n 1 C dX8_next_0 rfl rfl rfl ?_
  refine g_aload_n 2 C dX8_next_1 rfl rfl rfl ?_
  refine g_get 5 C (own := RX8) (C1 := RX8) (T := TX8) 0 0 (.int v) ksX8_next_iX8 ksX8_next_f7 rfl dX8_next_2 rfl rfl rfl (by decide) rfl ?_
  refine g_ldc 7 C (1103515245) ksX8_next_c13 dX8_next_5 rfl ?_
  refine g_imul 8 C dX8_next_7 rfl ?_
  refine g_sipush 11 C (nb 12345) dX8_next_8 rfl (by decide) ?_
  refine g_iadd 12 C dX8_next_11 rfl ?_
  refine g_top (v := (bx_n v)) rfl ?_
  refine g_put 15 C (own := RX8) (C1 := RX8) (T := TX8) (w2 := bx_W a (bx_n v)) 0 0 tyX8 tyX8_ok nmX8 ksX8_next_iX8 ksX8_next_f7 rfl rfl (ty := .int) (by decide) rfl rfl (sg_blt rfl) dX8_next_12 rfl rfl rfl (by decide) rfl ?_
  refine g_aload_n 16 C dX8_next_15 rfl rfl rfl ?_
  refine g_get 19 C (own := RX8) (C1 := RX8) (T := TX8) 0 0 (.int (bx_n v)) ksX8_next_iX8 ksX8_next_f7 rfl dX8_next_16 rfl rfl rfl (by decide) rfl ?_
  refine g_bipush 21 C (nb 16) dX8_next_19 rfl (by decide) ?_
  refine g_iushr 22 C dX8_next_21 rfl ?_
  refine g_top (v := (nb ((bx_n v).toUInt32.toNat / 65536))) (bx_sh _).symm ?_
  refine g_iload_n 23 C dX8_next_22 rfl rfl rfl ?_
  refine g_iremc 24 C dX8_next_23 rfl (nb_ne (b := 0) (by omega) (by omega) (by decide)) ?_
  refine g_top (v := (nb (bx_r v many))) (bx_rem (by have := (bx_n v).toUInt32.toNat_lt; omega) (by omega)).symm ?_
  exact g_iret C hr rfl hQ hsz dX8_next_24 rfl rfl
section SLN
variable {p : Program} {l : Launch} {e : Env} {R : Room} {s : State} {m : MethodId} {args : Array Value} {below : List Frame} {meth : Method} {c : Code} {D : va_G} {Y : Nat → ClassId} {Z : (Nat → Prop) → State → Heap → Prop} {A : Nat → Prop} {nL : Nat} {cells slots : Nat} {Q : State → Prop} {cc : ByteArray} {own : String} {Ts : List Cond} {pc : Nat} {lv : List (Nat × Value)} {st : List Value} {X : va_W} {ad b : Nat → Nat} {σ κ : sg_S} {index : Nat} {jK jV jT : Nat → Nat} {f : Nat → Nat} {n0 : Nat}
theorem lb_next0 (n : Nat) (C : sg_C p R s m args meth c cc nL own Ts D Y Z A) {a many : Nat} {v : Int32} {w : va_W} (hG : GoodIn Ts (wsV own index RX8 yX8_next wsX8_next)) (hR : 1 ≤ R.frames ∧ 21 ≤ R.locals) (hroom : (st.map fun v => v.category).sum ≤ 8) (h1 : 1 ≤ many) (h2 : many < 2147483648) (hq : ∃ q0 : Nat, w[q0]? = some (a, .inr (10, [.int v]))) (wd : Int32 → va_W) (hcut : ∀ u : Int32, sg_cutP w (bx_W a v) (bx_W a u) (wd u)) (hcs : cells ≤ R.cells ∧ slots ≤ R.slots) (hdg : decode cc pc = .ok (.invokevirtual index, 3)) (hn : pc + 3 = n) (kk : ∀ (r : Nat) (u : Int32), r < many → sg_G p l e R s m args below meth c D A nL cells slots Q n lv (.int (nb r) :: st) (wd u)) : sg_G p l e R s m args below meth c D A nL cells slots Q pc lv (.int (nb many) :: .ref a :: st) w := by
  obtain ⟨q0, hq0⟩ := hq
  exact g_callViP n C (As := [.int (nb many)]) (st := st) (n0 := 1) (ci := 10) (q0 := q0) (k_next l C.2.2.2.2.2.2.2.1 h1 h2) hG ⟨rfl, by decide +kernel, by decide +kernel, rfl⟩ rfl hR rfl hq0 (hcut _) rfl hroom hcs hdg hn rfl (kk _ _ (bx_lt v h1))
theorem lb_next (n : Nat) (C : sg_C p R s m args meth c cc nL own Ts D Y Z A) {a many : Nat} {v : Int32} (hG : GoodIn Ts (wsV own index RX8 yX8_next wsX8_next)) (hR : 1 ≤ R.frames ∧ 21 ≤ R.locals) (hroom : (st.map fun v => v.category).sum ≤ 8) (h1 : 1 ≤ many) (h2 : many < 2147483648) (hcs : cells ≤ R.cells ∧ slots ≤ R.slots) (hdg : decode cc pc = .ok (.invokevirtual index, 3)) (hn : pc + 3 = n) (kk : ∀ (r : Nat) (u : Int32), r < many → sg_G p l e R s m args below meth c D A nL cells slots Q n lv (.int (nb r) :: st) (sl_w Y ad σ (bx_W a u ++ X))) : sg_G p l e R s m args below meth c D A nL cells slots Q pc lv (.int (nb many) :: .ref a :: st) (sl_w Y ad σ (bx_W a v ++ X)) :=
  lb_next0 n C hG hR hroom h1 h2 ⟨0, sl_atX rfl⟩ (fun u => sl_w Y ad σ (bx_W a u ++ X)) (fun u => sl_cutP Y ad σ _ X _) hcs hdg hn kk
end SLN
set_option maxHeartbeats 4000000 in
set_option maxRecDepth 100000 in
theorem k_some (l : Launch) {D : va_G} {Y : Nat → ClassId} {Z : (Nat → Prop) → State → Heap → Prop} (hZ : sg_Zok Z) {a many : Nat} {v : Int32} (h2 : many < 2147483647) : sg_XI l yL_some wsL_some 2 50 0 0 D Y Z [.ref a, .int (nb many)] (bx_W a v) (fun (r : Int32) (_ : Int32) => ∃ k, k ≤ many ∧ r = nb k) (fun u => bx_W a u) := by
  intro sz
  refine sg_enterX (own := RL) (maxL := 2) (ret := (some .int)) (cc := cL_some) (by decide +kernel) rfl rfl (Nat.le_of_ble_eq_true rfl) hZ ?_
  intro p e s m args below meth c C hr hin Q hQ hsz
  refine g_lv (lv2 := [(0, .ref a), (1, .int (nb many))]) [0, 1] rfl ?_
  refine g_aload_n 1 C dL_some_0 rfl rfl rfl ?_
  refine g_bipush 3 C (nb 25) dL_some_1 rfl (by decide) ?_
  refine lb_next0 6 C gL_some_X8_next ⟨(Nat.le_of_ble_eq_true rfl), (Nat.le_of_ble_eq_true rfl)⟩ (Nat.le_of_ble_eq_true rfl) (by decide) (by decide) ⟨0, rfl⟩ (fun u => bx_W a u) (fun u => sg_cutAll) ⟨(Nat.le_of_ble_eq_true rfl), (Nat.le_of_ble_eq_true rfl)⟩ dL_some_3 rfl (fun r u hru => ?_)
  by_cases e : r = 0
  · skip
    refine g_if_ne 9 13 C dL_some_6 (by decide) rfl (T := none) (E := some ()) (v := ()) (if_pos (by rw [e]; rfl)) (fun h => by cases h) (fun _ => ?_)
    refine g_iload_n 10 C dL_some_9 rfl rfl rfl ?_
    refine g_goto 22 C dL_some_10 (by decide) ?_
    exact g_iretX (P := (fun (r : Int32) (_ : Int32) => ∃ k, k ≤ many ∧ r = nb k)) (w' := fun u => bx_W a u) u C hr rfl hQ hsz dL_some_22 ⟨many, Nat.le_refl _, rfl⟩ rfl
  · skip
    refine g_if_ne 9 13 C dL_some_6 (by decide) rfl (T := some ()) (E := none) (v := ()) (if_neg (fun q => e ((nb_eq (by omega) (by decide)).mp q))) (fun _ => ?_) (fun h => by cases h)
    refine g_aload_n 14 C dL_some_13 rfl rfl rfl ?_
    refine g_iconst 15 C (nb 1) dL_some_14 rfl (by decide) ?_
    refine g_iload_n 16 C dL_some_15 rfl rfl rfl ?_
    refine g_mmax 19 C ksL_some_m1 ksL_some_m2 ksL_some_m3 ksL_some_m4 (Nat.le_of_ble_eq_true rfl) (Nat.le_of_ble_eq_true rfl) (Nat.le_of_ble_eq_true rfl) (Nat.le_of_ble_eq_true rfl) dL_some_16 rfl ?_
    refine g_top (v := (nb (max 1 many))) (bx_max many (by omega)).symm ?_
    refine lb_next0 22 C gL_some_X8_next ⟨(Nat.le_of_ble_eq_true rfl), (Nat.le_of_ble_eq_true rfl)⟩ (Nat.le_of_ble_eq_true rfl) (by omega) (by omega) ⟨0, rfl⟩ (fun u => bx_W a u) (fun u => sg_cutAll) ⟨(Nat.le_of_ble_eq_true rfl), (Nat.le_of_ble_eq_true rfl)⟩ dL_some_19 rfl (fun r2 u2 hr2 => ?_)
    exact g_iretX (P := (fun (r : Int32) (_ : Int32) => ∃ k, k ≤ many ∧ r = nb k)) (w' := fun u => bx_W a u) u2 C hr rfl hQ hsz dL_some_22 ⟨if many = 0 then 0 else r2, by split <;> omega, by split <;> first | rfl | (congr 1; omega)⟩ rfl
section SLN2
variable {p : Program} {l : Launch} {e : Env} {R : Room} {s : State} {m : MethodId} {args : Array Value} {below : List Frame} {meth : Method} {c : Code} {D : va_G} {Y : Nat → ClassId} {Z : (Nat → Prop) → State → Heap → Prop} {A : Nat → Prop} {nL : Nat} {cells slots : Nat} {Q : State → Prop} {cc : ByteArray} {own : String} {Ts : List Cond} {pc : Nat} {lv : List (Nat × Value)} {st : List Value} {X : va_W} {ad b : Nat → Nat} {σ κ : sg_S} {index : Nat} {jK jV jT : Nat → Nat} {f : Nat → Nat} {n0 : Nat}
theorem lb_some (n : Nat) (C : sg_C p R s m args meth c cc nL own Ts D Y Z A) {a many : Nat} {v : Int32} (hG : GoodIn Ts (va_wsS own index yL_some wsL_some)) (hR : 3 ≤ R.frames ∧ 71 ≤ R.locals) (hroom : (st.map fun v => v.category).sum ≤ 8) (h2 : many < 2147483647) (hcs : cells ≤ R.cells ∧ slots ≤ R.slots) (hdg : decode cc pc = .ok (.invokestatic index, 3)) (hn : pc + 3 = n) (kk : ∀ (r : Nat) (u : Int32), r ≤ many → sg_G p l e R s m args below meth c D A nL cells slots Q n lv (.int (nb r) :: st) (sl_w Y ad σ (bx_W a u ++ X))) : sg_G p l e R s m args below meth c D A nL cells slots Q pc lv (.int (nb many) :: .ref a :: st) (sl_w Y ad σ (bx_W a v ++ X)) := by
  refine g_XSi n C (As := [.ref a, .int (nb many)]) (st := st) (n0 := 2) (k_some l C.2.2.2.2.2.2.2.1 (a := a) (v := v) h2) hG ⟨by decide +kernel, by decide +kernel, rfl⟩ rfl hR (sl_cutX Y ad σ _ X _) rfl hroom hcs hdg hn rfl (fun r u hr => ?_)
  obtain ⟨k, hk, rfl⟩ := hr
  exact kk k u hk
end SLN2
/-- the script of the law -/
def sg_ZX (Z : (Nat → Prop) → State → Heap → Prop) (sb L : Nat) (xs : Nat → Int32) : Prop := L ≤ 260 ∧ ∀ (A : Nat → Prop) (U : State) (H : Heap), Z A U H → va_T .int sb L (fun j => .int (xs j)) A U H
set_option maxHeartbeats 4000000 in
set_option maxRecDepth 100000 in
theorem k_cell (l : Launch) {D : va_G} {Y : Nat → ClassId} {Z : (Nat → Prop) → State → Heap → Prop} (hZ : sg_Zok Z) {sb L i : Nat} {xs : Nat → Int32} (hX : sg_ZX Z sb L xs) (hi : i < 10000) : sg_XI l yL_cell wsL_cell 0 0 0 0 D Y Z [.ref sb, .int (nb i)] [] (fun (_ : Int32) (_ : Unit) => True) (fun _ => []) := by
  intro sz
  refine sg_enterX (own := RL) (maxL := 2) (ret := (some .int)) (cc := cL_cell) (by decide +kernel) rfl rfl (Nat.le_of_ble_eq_true rfl) hZ ?_
  intro p e s m args below meth c C hr hin Q hQ hsz
  have hL := hX.1
  have hT := hX.2 _ _ _ C.2.2.2.2.2.2.2.2.1
  refine g_lv (lv2 := [(0, .ref sb), (1, .int (nb i))]) [0, 1] rfl ?_
  refine g_aload_n 1 C dL_cell_0 rfl rfl rfl ?_
  refine g_tlen 2 C (nb L) hT rfl dL_cell_1 rfl ?_
  by_cases e : L = 0
  · skip
    refine g_if_ne 5 15 C dL_cell_2 (by decide) rfl (T := none) (E := some ()) (v := ()) (if_pos (by rw [e]; rfl)) (fun h => by cases h) (fun _ => ?_)
    refine g_bipush 7 C (nb 71) dL_cell_5 rfl (by decide) ?_
    refine g_iload_n 8 C dL_cell_7 rfl rfl rfl ?_
    refine g_imul 9 C dL_cell_8 rfl ?_
    refine g_bipush 11 C (nb 13) dL_cell_9 rfl (by decide) ?_
    refine g_iadd 12 C dL_cell_11 rfl ?_
    refine g_goto 31 C dL_cell_12 (by decide) ?_
    exact g_iretX (P := fun (_ : Int32) (_ : Unit) => True) (w' := fun _ => []) () C hr rfl hQ hsz dL_cell_31 trivial rfl
  · skip
    refine g_if_ne 5 15 C dL_cell_2 (by decide) rfl (T := some ()) (E := none) (v := ()) (if_neg (nb_ne (b := 0) e (by omega) (by decide))) (fun _ => ?_) (fun h => by cases h)
    refine g_aload_n 16 C dL_cell_15 rfl rfl rfl ?_
    refine g_iload_n 17 C dL_cell_16 rfl rfl rfl ?_
    refine g_aload_n 18 C dL_cell_17 rfl rfl rfl ?_
    refine g_tlen 19 C (nb L) hT rfl dL_cell_18 rfl ?_
    refine g_iremc 20 C dL_cell_19 rfl (nb_ne (b := 0) e (by omega) (by decide)) ?_
    refine g_top (v := (nb (i % L))) (bx_rem (by omega) (by omega)).symm ?_
    refine g_tald 21 C (.int (xs (i % L))) hT (nb_in (Nat.mod_lt _ (by omega)) (by omega)) (by rw [nb_tn (by have := Nat.mod_lt i (show 0 < L by omega); omega)]) dL_cell_20 rfl ?_
    refine g_iconst 22 C (nb 5) dL_cell_21 rfl (by decide) ?_
    refine g_iload_n 23 C dL_cell_22 rfl rfl rfl ?_
    refine g_aload_n 24 C dL_cell_23 rfl rfl rfl ?_
    refine g_tlen 25 C (nb L) hT rfl dL_cell_24 rfl ?_
    refine g_idivc 26 C dL_cell_25 rfl (nb_ne (b := 0) e (by omega) (by decide)) ?_
    refine g_imul 27 C dL_cell_26 rfl ?_
    refine g_bipush 29 C (nb 17) dL_cell_27 rfl (by decide) ?_
    refine g_iremc 30 C dL_cell_29 rfl (by decide) ?_
    refine g_iushr 31 C dL_cell_30 rfl ?_
    exact g_iretX (P := fun (_ : Int32) (_ : Unit) => True) (w' := fun _ => []) () C hr rfl hQ hsz dL_cell_31 trivial rfl
