/-! THE LAW: its stock -/
set_option maxHeartbeats 4000000 in
set_option maxRecDepth 100000 in
theorem k_stock (l : Launch) {D : va_G} {Y : Nat → ClassId} {Z : (Nat → Prop) → State → Heap → Prop} (hZ : sg_Zok Z) {ad : Nat → Nat} {σ : sg_S} {w : Nat → Nat} {c0 : Nat} (hA : cl_A 0 w c0 σ) (hr : st_s σ = some [1, 2, 3, 0, 1, 2, 3, 4, 5, 10, 1]) : sg_XI l yL_stock wsL_stock 8 210 0 0 D Y Z [.ref (ad 0)] (sl_w Y ad σ []) (fun (r : Int32) (u : sg_S) => r = 32 ∧ ∃ w2 c2, cl_A 11 w2 c2 u) (fun u => sl_w Y ad u []) := by
  intro sz
  refine sg_enterX (own := RL) (maxL := 2) (ret := (some .int)) (cc := cL_stock) (by decide +kernel) rfl rfl (Nat.le_of_ble_eq_true rfl) hZ ?_
  intro p e s m args below meth c C hr0 hin Q hQ hsz
  refine g_lv (lv2 := [(0, .ref (ad 0))]) [0] rfl ?_
  refine g_aload_n 1 C dL_stock_0 rfl rfl rfl ?_
  refine g_iconst 2 C (nb 0) dL_stock_1 rfl (by decide) ?_
  refine g_iconst 3 C (nb 1) dL_stock_2 rfl (by decide) ?_
  refine g_iconst 4 C (nb 1) dL_stock_3 rfl (by decide) ?_
  obtain ⟨σ1, e1, hr⟩ := st_bE hr
  obtain ⟨r1, σ1x, f1, g1⟩ := kc_treaty hA (by omega) 0 1 1
  obtain ⟨⟨w1, hA1⟩, F1⟩ := st_kept g1 f1 e1 (by decide)
  refine lc_treaty 7 C gL_stock_X7_treaty ⟨(Nat.le_of_ble_eq_true rfl), (Nat.le_of_ble_eq_true rfl)⟩ (Nat.le_of_ble_eq_true rfl) e1 ⟨(Nat.le_of_ble_eq_true rfl), (Nat.le_of_ble_eq_true rfl)⟩ dL_stock_4 rfl ?_
  rw [kb_ch F1]
  refine g_aload_n 8 C dL_stock_7 rfl rfl rfl ?_
  refine g_iconst 9 C (nb 1) dL_stock_8 rfl (by decide) ?_
  refine g_iconst 10 C (nb 2) dL_stock_9 rfl (by decide) ?_
  refine g_iconst 11 C (nb 1) dL_stock_10 rfl (by decide) ?_
  obtain ⟨σ2, e2, hr⟩ := st_bE hr
  obtain ⟨r2, σ2x, f2, g2⟩ := kc_treaty hA1 (by omega) 1 2 1
  obtain ⟨⟨w2, hA2⟩, F2⟩ := st_kept g2 f2 e2 (by decide)
  refine lc_treaty 14 C gL_stock_X7_treaty ⟨(Nat.le_of_ble_eq_true rfl), (Nat.le_of_ble_eq_true rfl)⟩ (Nat.le_of_ble_eq_true rfl) e2 ⟨(Nat.le_of_ble_eq_true rfl), (Nat.le_of_ble_eq_true rfl)⟩ dL_stock_11 rfl ?_
  rw [kb_ch F2]
  refine g_iadd 15 C dL_stock_14 rfl ?_
  refine g_aload_n 16 C dL_stock_15 rfl rfl rfl ?_
  refine g_iconst 17 C (nb 3) dL_stock_16 rfl (by decide) ?_
  refine g_iconst 18 C (nb 4) dL_stock_17 rfl (by decide) ?_
  refine g_iconst 19 C (nb 1) dL_stock_18 rfl (by decide) ?_
  obtain ⟨σ3, e3, hr⟩ := st_bE hr
  obtain ⟨r3, σ3x, f3, g3⟩ := kc_treaty hA2 (by omega) 3 4 1
  obtain ⟨⟨w3, hA3⟩, F3⟩ := st_kept g3 f3 e3 (by decide)
  refine lc_treaty 22 C gL_stock_X7_treaty ⟨(Nat.le_of_ble_eq_true rfl), (Nat.le_of_ble_eq_true rfl)⟩ (Nat.le_of_ble_eq_true rfl) e3 ⟨(Nat.le_of_ble_eq_true rfl), (Nat.le_of_ble_eq_true rfl)⟩ dL_stock_19 rfl ?_
  rw [kb_ch F3]
  refine g_iadd 23 C dL_stock_22 rfl ?_
  refine g_aload_n 24 C dL_stock_23 rfl rfl rfl ?_
  refine g_iconst 25 C (nb 0) dL_stock_24 rfl (by decide) ?_
  refine g_bipush 27 C (nb 12) dL_stock_25 rfl (by decide) ?_
  refine g_iconst 28 C (nb 1) dL_stock_27 rfl (by decide) ?_
  obtain ⟨σ4, e4, hr⟩ := st_bE hr
  obtain ⟨r4, σ4x, f4, g4⟩ := kc_credit hA3 (by omega) 0 12 1
  obtain ⟨⟨w4, hA4⟩, F4⟩ := st_kept g4 f4 e4 (by decide)
  refine lc_credit 31 C gL_stock_X7_credit ⟨(Nat.le_of_ble_eq_true rfl), (Nat.le_of_ble_eq_true rfl)⟩ (Nat.le_of_ble_eq_true rfl) e4 ⟨(Nat.le_of_ble_eq_true rfl), (Nat.le_of_ble_eq_true rfl)⟩ dL_stock_28 rfl ?_
  rw [kb_ch F4]
  refine g_iadd 32 C dL_stock_31 rfl ?_
  refine g_aload_n 33 C dL_stock_32 rfl rfl rfl ?_
  refine g_iconst 34 C (nb 2) dL_stock_33 rfl (by decide) ?_
  refine g_iconst 35 C (nb 5) dL_stock_34 rfl (by decide) ?_
  refine g_iconst 36 C (nb 3) dL_stock_35 rfl (by decide) ?_
  obtain ⟨σ5, e5, hr⟩ := st_bE hr
  obtain ⟨r5, σ5x, f5, g5⟩ := kc_credit hA4 (by omega) 2 5 3
  obtain ⟨⟨w5, hA5⟩, F5⟩ := st_kept g5 f5 e5 (by decide)
  refine lc_credit 39 C gL_stock_X7_credit ⟨(Nat.le_of_ble_eq_true rfl), (Nat.le_of_ble_eq_true rfl)⟩ (Nat.le_of_ble_eq_true rfl) e5 ⟨(Nat.le_of_ble_eq_true rfl), (Nat.le_of_ble_eq_true rfl)⟩ dL_stock_36 rfl ?_
  rw [kb_ch F5]
  refine g_iadd 40 C dL_stock_39 rfl ?_
  refine g_aload_n 41 C dL_stock_40 rfl rfl rfl ?_
  refine g_iconst 42 C (nb 1) dL_stock_41 rfl (by decide) ?_
  refine g_bipush 44 C (nb 20) dL_stock_42 rfl (by decide) ?_
  refine g_iconst 45 C (nb 2) dL_stock_44 rfl (by decide) ?_
  obtain ⟨σ6, e6, hr⟩ := st_bE hr
  obtain ⟨r6, σ6x, f6, g6⟩ := kc_credit hA5 (by omega) 1 20 2
  obtain ⟨⟨w6, hA6⟩, F6⟩ := st_kept g6 f6 e6 (by decide)
  refine lc_credit 48 C gL_stock_X7_credit ⟨(Nat.le_of_ble_eq_true rfl), (Nat.le_of_ble_eq_true rfl)⟩ (Nat.le_of_ble_eq_true rfl) e6 ⟨(Nat.le_of_ble_eq_true rfl), (Nat.le_of_ble_eq_true rfl)⟩ dL_stock_45 rfl ?_
  rw [kb_ch F6]
  refine g_iadd 49 C dL_stock_48 rfl ?_
  refine g_istore_n 50 C [(1, .int (((((1 + 2) + 3) + 0) + 1) + 2)), (0, .ref (ad 0))] dL_stock_49 rfl rfl (by decide) rfl ?_
  refine g_iload_n 51 C dL_stock_50 rfl rfl rfl ?_
  refine g_aload_n 52 C dL_stock_51 rfl rfl rfl ?_
  refine g_iconst 53 C (nb 0) dL_stock_52 rfl (by decide) ?_
  obtain ⟨σ7, e7, hr⟩ := st_bE hr
  obtain ⟨r7, σ7x, f7, g7⟩ := kc_buy hA6 (by omega) 0
  obtain ⟨⟨w7, hA7⟩, F7⟩ := st_kept g7 f7 e7 (by decide)
  refine lc_buy 56 C gL_stock_X7_buy ⟨(Nat.le_of_ble_eq_true rfl), (Nat.le_of_ble_eq_true rfl)⟩ (Nat.le_of_ble_eq_true rfl) e7 ⟨(Nat.le_of_ble_eq_true rfl), (Nat.le_of_ble_eq_true rfl)⟩ dL_stock_53 rfl ?_
  rw [kb_ch F7]
  refine g_iadd 57 C dL_stock_56 rfl ?_
  refine g_aload_n 58 C dL_stock_57 rfl rfl rfl ?_
  refine g_iconst 59 C (nb 0) dL_stock_58 rfl (by decide) ?_
  obtain ⟨σ8, e8, hr⟩ := st_bE hr
  obtain ⟨r8, σ8x, f8, g8⟩ := kc_buy hA7 (by omega) 0
  obtain ⟨⟨w8, hA8⟩, F8⟩ := st_kept g8 f8 e8 (by decide)
  refine lc_buy 62 C gL_stock_X7_buy ⟨(Nat.le_of_ble_eq_true rfl), (Nat.le_of_ble_eq_true rfl)⟩ (Nat.le_of_ble_eq_true rfl) e8 ⟨(Nat.le_of_ble_eq_true rfl), (Nat.le_of_ble_eq_true rfl)⟩ dL_stock_59 rfl ?_
  rw [kb_ch F8]
  refine g_iadd 63 C dL_stock_62 rfl ?_
  refine g_aload_n 64 C dL_stock_63 rfl rfl rfl ?_
  refine g_iconst 65 C (nb 0) dL_stock_64 rfl (by decide) ?_
  obtain ⟨σ9, e9, hr⟩ := st_bE hr
  obtain ⟨r9, σ9x, f9, g9⟩ := kc_buy hA8 (by omega) 0
  obtain ⟨⟨w9, hA9⟩, F9⟩ := st_kept g9 f9 e9 (by decide)
  refine lc_buy 68 C gL_stock_X7_buy ⟨(Nat.le_of_ble_eq_true rfl), (Nat.le_of_ble_eq_true rfl)⟩ (Nat.le_of_ble_eq_true rfl) e9 ⟨(Nat.le_of_ble_eq_true rfl), (Nat.le_of_ble_eq_true rfl)⟩ dL_stock_65 rfl ?_
  rw [kb_ch F9]
  refine g_iadd 69 C dL_stock_68 rfl ?_
  refine g_aload_n 70 C dL_stock_69 rfl rfl rfl ?_
  refine g_iconst 71 C (nb 3) dL_stock_70 rfl (by decide) ?_
  refine g_bipush 73 C (nb 7) dL_stock_71 rfl (by decide) ?_
  obtain ⟨σ10, e10, hr⟩ := st_bE hr
  obtain ⟨r10, σ10x, f10, g10⟩ := kc_rain hA9 (by omega) 3 7
  obtain ⟨⟨w10, hA10⟩, F10⟩ := st_kept g10 f10 e10 (by decide)
  refine lc_rain 76 C gL_stock_X7_rain ⟨(Nat.le_of_ble_eq_true rfl), (Nat.le_of_ble_eq_true rfl)⟩ (Nat.le_of_ble_eq_true rfl) e10 ⟨(Nat.le_of_ble_eq_true rfl), (Nat.le_of_ble_eq_true rfl)⟩ dL_stock_73 rfl ?_
  rw [kb_ch F10]
  refine g_iadd 77 C dL_stock_76 rfl ?_
  refine g_aload_n 78 C dL_stock_77 rfl rfl rfl ?_
  obtain ⟨σ11, e11, hr⟩ := st_bE hr
  obtain ⟨r11, σ11x, f11, g11⟩ := kc_month hA10 (by omega) 
  obtain ⟨⟨w11, hA11⟩, F11⟩ := st_kept g11 f11 e11 (by decide)
  refine lc_month 81 C gL_stock_X7_month ⟨(Nat.le_of_ble_eq_true rfl), (Nat.le_of_ble_eq_true rfl)⟩ (Nat.le_of_ble_eq_true rfl) e11 ⟨(Nat.le_of_ble_eq_true rfl), (Nat.le_of_ble_eq_true rfl)⟩ dL_stock_78 rfl ?_
  rw [kb_ch F11]
  refine g_iadd 82 C dL_stock_81 rfl ?_
  exact g_iretX (P := (fun (r : Int32) (u : sg_S) => r = 32 ∧ ∃ w2 c2, cl_A 11 w2 c2 u)) (w' := (fun u => sl_w Y ad u [])) σ11 C hr0 rfl hQ hsz dL_stock_82 ⟨by decide, _, _, hA11⟩ rfl
section SLS
variable {p : Program} {l : Launch} {e : Env} {R : Room} {s : State} {m : MethodId} {args : Array Value} {below : List Frame} {meth : Method} {c : Code} {D : va_G} {Y : Nat → ClassId} {Z : (Nat → Prop) → State → Heap → Prop} {A : Nat → Prop} {nL : Nat} {cells slots : Nat} {Q : State → Prop} {cc : ByteArray} {own : String} {Ts : List Cond} {pc : Nat} {lv : List (Nat × Value)} {st : List Value} {X : va_W} {ad b : Nat → Nat} {σ κ : sg_S} {index : Nat} {jK jV jT : Nat → Nat} {f : Nat → Nat} {n0 : Nat} {c0 : Nat} {w : Nat → Nat}
theorem lk_stock (n : Nat) (C : sg_C p R s m args meth c cc nL own Ts D Y Z A) (hA : cl_A 0 w c0 σ) (hr : st_s σ = some [1, 2, 3, 0, 1, 2, 3, 4, 5, 10, 1]) (hG : GoodIn Ts (va_wsS own index yL_stock wsL_stock)) (hR : 9 ≤ R.frames ∧ 231 ≤ R.locals) (hroom : (st.map fun v => v.category).sum ≤ 8) (hcs : cells ≤ R.cells ∧ slots ≤ R.slots) (hdg : decode cc pc = .ok (.invokestatic index, 3)) (hn : pc + 3 = n) (kk : ∀ (σ2 : sg_S) (w2 : Nat → Nat) (c2 : Nat), cl_A 11 w2 c2 σ2 → sg_G p l e R s m args below meth c D A nL cells slots Q n lv (.int 32 :: st) (sl_w Y ad σ2 X)) : sg_G p l e R s m args below meth c D A nL cells slots Q pc lv (.ref (ad 0) :: st) (sl_w Y ad σ X) := by
  refine g_XSi n C (As := [.ref (ad 0)]) (st := st) (n0 := 1) (k_stock l C.2.2.2.2.2.2.2.1 hA hr) hG ⟨by decide +kernel, by decide +kernel, rfl⟩ rfl hR (sl_cutL Y ad σ [] X (fun _ => ad) (fun u : sg_S => u) (fun _ => [])) rfl hroom hcs hdg hn rfl (fun r u hu => ?_)
  obtain ⟨rfl, w2, c2, h1⟩ := hu
  exact kk u w2 c2 h1
end SLS
