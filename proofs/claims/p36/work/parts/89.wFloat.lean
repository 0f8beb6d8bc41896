/-! THE MEAN AND THE SHARE: answers that are numbers -/
def sg_MDd (l : Launch) (y : MethodName) (ws : List Cond) (fr lo : Nat) (D : va_G) (Y : Nat → ClassId) (Z : (Nat → Prop) → State → Heap → Prop) (av : List Value) (w : va_W) (v : UInt64) : Prop := ∀ sz : Nat, Met l y ws ({ frames := fr, cells := 0, slots := 0, locals := lo }) (va_Pc av (sg_pre D Y Z w sz)) (va_Qd (fun (r : UInt64) (_ : Unit) => r = v) (fun _ => sg_post D Y w w sz) (va_A w sz)) 0 0 (va_A w sz)
def sg_MDf (l : Launch) (y : MethodName) (ws : List Cond) (fr lo : Nat) (D : va_G) (Y : Nat → ClassId) (Z : (Nat → Prop) → State → Heap → Prop) (av : List Value) (w : va_W) (v : UInt32) : Prop := ∀ sz : Nat, Met l y ws ({ frames := fr, cells := 0, slots := 0, locals := lo }) (va_Pc av (sg_pre D Y Z w sz)) (va_Qf (fun (r : UInt32) (_ : Unit) => r = v) (fun _ => sg_post D Y w w sz) (va_A w sz)) 0 0 (va_A w sz)
section SGD
variable {p : Program} {l : Launch} {e : Env} {R : Room} {s : State} {m : MethodId} {args : Array Value} {below : List Frame} {meth : Method} {c : Code} {D : va_G} {Y : Nat → ClassId} {Z : (Nat → Prop) → State → Heap → Prop} {A : Nat → Prop} {nL : Nat} {cells slots : Nat} {Q : State → Prop} {cc : ByteArray} {own : String} {Ts : List Cond} {pc : Nat} {lv : List (Nat × Value)} {st : List Value} {w : va_W} {x y : Int32}
theorem g_i2f (n : Nat) (C : sg_C p R s m args meth c cc nL own Ts D Y Z A) (hdg : decode cc pc = .ok (.i2f, 1)) (hn : pc + 1 = n) (kk : sg_G p l e R s m args below meth c D A nL cells slots Q n lv (.float (FP.i2f x) :: st) w) : sg_G p l e R s m args below meth c D A nL cells slots Q pc lv (.int x :: st) w := by
  subst hn
  exact fun H locs ls hP hD hS hh => lv_i2f C.1 C.2.1 hdg (kk H locs ls hP hD hS hh)
theorem g_i2d (n : Nat) (C : sg_C p R s m args meth c cc nL own Ts D Y Z A) (hdg : decode cc pc = .ok (.i2d, 1)) (hn : pc + 1 = n) (kk : sg_G p l e R s m args below meth c D A nL cells slots Q n lv (.double (FP.i2d x) :: st) w) : sg_G p l e R s m args below meth c D A nL cells slots Q pc lv (.int x :: st) w := by
  subst hn
  exact fun H locs ls hP hD hS hh => lv_i2d C.1 C.2.1 hdg (kk H locs ls hP hD hS hh)
theorem g_ldc2d (n : Nat) (C : sg_C p R s m args meth c cc nL own Ts D Y Z A) {index : Nat} {v : UInt64} (hk : Cond.constantDouble own index v ∈ Ts) (hdg : decode cc pc = .ok (.ldc2_w index, 3)) (hn : pc + 3 = n) (kk : sg_G p l e R s m args below meth c D A nL cells slots Q n lv (.double v :: st) w) : sg_G p l e R s m args below meth c D A nL cells slots Q pc lv st w := by
  subst hn
  exact fun H locs ls hP hD hS hh => lv_ldc2d C.1 C.2.1 C.2.2.2.1 (C.2.2.2.2.1 _ hk) hdg (kk H locs ls hP hD hS hh)
theorem g_fconst0 (n : Nat) (C : sg_C p R s m args meth c cc nL own Ts D Y Z A) (hdg : decode cc pc = .ok (.fconst 0, 1)) (hn : pc + 1 = n) (kk : sg_G p l e R s m args below meth c D A nL cells slots Q n lv (.float FP.fconst0 :: st) w) : sg_G p l e R s m args below meth c D A nL cells slots Q pc lv st w := by
  subst hn
  exact fun H locs ls hP hD hS hh => lv_fconst0 C.1 C.2.1 hdg (kk H locs ls hP hD hS hh)
theorem g_ddiv (n : Nat) (C : sg_C p R s m args meth c cc nL own Ts D Y Z A) {u v : UInt64} (hne : vf_n64 (FP.ddiv u v)) (hdg : decode cc pc = .ok (.ddiv, 1)) (hn : pc + 1 = n) (kk : sg_G p l e R s m args below meth c D A nL cells slots Q n lv (.double (FP.ddiv u v) :: st) w) : sg_G p l e R s m args below meth c D A nL cells slots Q pc lv (.double v :: .double u :: st) w := by
  subst hn
  exact fun H locs ls hP hD hS hh => lv_ddiv C.1 C.2.1 hdg hne (kk H locs ls hP hD hS hh)
theorem g_fdiv (n : Nat) (C : sg_C p R s m args meth c cc nL own Ts D Y Z A) {u v : UInt32} (hne : vf_n32 (FP.fdiv u v)) (hdg : decode cc pc = .ok (.fdiv, 1)) (hn : pc + 1 = n) (kk : sg_G p l e R s m args below meth c D A nL cells slots Q n lv (.float (FP.fdiv u v) :: st) w) : sg_G p l e R s m args below meth c D A nL cells slots Q pc lv (.float v :: .float u :: st) w := by
  subst hn
  exact fun H locs ls hP hD hS hh => lv_fdiv C.1 C.2.1 hdg hne (kk H locs ls hP hD hS hh)
theorem g_dcmp (n : Nat) (C : sg_C p R s m args meth c cc nL own Ts D Y Z A) {u v : UInt64} {op : CmpOp}  (hdg : decode cc pc = .ok (.dcmp op, 1)) (hn : pc + 1 = n) (kk : sg_G p l e R s m args below meth c D A nL cells slots Q n lv (.int (Op.cmpValue (FP.dcmp u v) op) :: st) w) : sg_G p l e R s m args below meth c D A nL cells slots Q pc lv (.double v :: .double u :: st) w := by
  subst hn
  exact fun H locs ls hP hD hS hh => lv_dcmp C.1 C.2.1 hdg (kk H locs ls hP hD hS hh)
theorem g_fcmp (n : Nat) (C : sg_C p R s m args meth c cc nL own Ts D Y Z A) {u v : UInt32} {op : CmpOp}  (hdg : decode cc pc = .ok (.fcmp op, 1)) (hn : pc + 1 = n) (kk : sg_G p l e R s m args below meth c D A nL cells slots Q n lv (.int (Op.cmpValue (FP.fcmp u v) op) :: st) w) : sg_G p l e R s m args below meth c D A nL cells slots Q pc lv (.float v :: .float u :: st) w := by
  subst hn
  exact fun H locs ls hP hD hS hh => lv_fcmp C.1 C.2.1 hdg (kk H locs ls hP hD hS hh)
theorem g_dstore_n (n : Nat) (C : sg_C p R s m args meth c cc nL own Ts D Y Z A) {i : Nat} {k : Fin 4} {v : UInt64} (lv2 : List (Nat × Value)) (hdg : decode cc pc = .ok (.dstore_n k, 1)) (hn : pc + 1 = n) (hi : (k : Nat) = i) (hi2 : i + 1 < nL) (hl : (i, Value.double v) :: lv.filter (fun q => !(q.1 == i) && (!(q.1 == i + 1) && !(q.1 + 1 == i && q.2.category == 2))) = lv2) (kk : sg_G p l e R s m args below meth c D A nL cells slots Q n lv2 st w) : sg_G p l e R s m args below meth c D A nL cells slots Q pc lv (.double v :: st) w := by
  subst hn
  exact fun H locs ls hP hD hS hh => lv_dstore_n C.1 C.2.1 hdg hi hh hi2 hl (fun ls2 h2 => kk H locs ls2 hP hD hS h2)
theorem g_fstore (n : Nat) (C : sg_C p R s m args meth c cc nL own Ts D Y Z A) {i : Nat} {v : UInt32} (lv2 : List (Nat × Value)) (hdg : decode cc pc = .ok (.fstore i, 2)) (hn : pc + 2 = n) (hi2 : i < nL) (hl : (i, Value.float v) :: lv.filter (fun q => !(q.1 == i) && !(q.1 + 1 == i && q.2.category == 2)) = lv2) (kk : sg_G p l e R s m args below meth c D A nL cells slots Q n lv2 st w) : sg_G p l e R s m args below meth c D A nL cells slots Q pc lv (.float v :: st) w := by
  subst hn
  exact fun H locs ls hP hD hS hh => lv_fstore C.1 C.2.1 hdg hh hi2 hl (fun ls2 h2 => kk H locs ls2 hP hD hS h2)
theorem g_dload_n (n : Nat) (C : sg_C p R s m args meth c cc nL own Ts D Y Z A) {i : Nat} {k : Fin 4} {v : UInt64} (hdg : decode cc pc = .ok (.dload_n k, 1)) (hn : pc + 1 = n) (hi : (k : Nat) = i) (hl : sg_lk lv i = some (.double v)) (kk : sg_G p l e R s m args below meth c D A nL cells slots Q n lv (.double v :: st) w) : sg_G p l e R s m args below meth c D A nL cells slots Q pc lv st w := by
  subst hn
  exact fun H locs ls hP hD hS hh => lv_dload_n C.1 C.2.1 hdg hi (sg_lk_has hh hl) (kk H locs ls hP hD hS hh)
theorem g_fload (n : Nat) (C : sg_C p R s m args meth c cc nL own Ts D Y Z A) {i : Nat} {v : UInt32} (hdg : decode cc pc = .ok (.fload i, 2)) (hn : pc + 2 = n) (hl : sg_lk lv i = some (.float v)) (kk : sg_G p l e R s m args below meth c D A nL cells slots Q n lv (.float v :: st) w) : sg_G p l e R s m args below meth c D A nL cells slots Q pc lv st w := by
  subst hn
  exact fun H locs ls hP hD hS hh => lv_fload C.1 C.2.1 hdg (sg_lk_has hh hl) (kk H locs ls hP hD hS hh)
theorem g_dret {w0 : va_W} {sz : Nat} {v : UInt64} (C : sg_C p R s m args meth c cc nL own Ts D Y Z (va_A w0 s.heap.size)) (hr : meth.sig.returnType = some .double) (hQ : Q = MQ below (va_Qd (fun (r : UInt64) (_ : Unit) => r = v) (fun _ => sg_post D Y w0 w0 sz) (va_A w0 sz)) args s cells slots (va_A w0 s.heap.size)) (hsz : s.heap.size = sz) (hdg : decode cc pc = .ok (.dreturn, 1)) : sg_G p l e R s m args below meth c D (va_A w0 s.heap.size) nL cells slots Q pc lv [.double v] w0 := by
  subst hQ
  subst hsz
  intro H locs ls hP hD hS hl
  exact W.dret (v := v) C.1 C.2.1 hr (fun t ht hW => ⟨⟨v, (), rfl, rfl, by rw [ht]; exact hP, va_K.moved hW.alike C.2.2.2.2.2.1, hD⟩, hS.F ht⟩) hS.2.2 hdg C.2.2.2.2.2.2.2.2.2
theorem g_callDd (n : Nat) (C : sg_C p R s m args meth c cc nL own Ts D Y Z A) {y : MethodName} {bytes : ByteArray} {maxL n0 index : Nat} {ret : Option FieldType} {ws ws' : List Cond} {fr lo : Nat} {As : List Value} {wc : va_W} {C2 : String} {b : Nat} {q0 ci : Nat} {T : u_T} {N : Nat} {fs : List Value} {v : UInt64} (hM : sg_MDd l y ws fr lo D Y Z (.ref b :: As) wc v) (hG : GoodIn Ts (wsV own index C2 y ws)) (hd : y.cls = C2 ∧ y.cls ≠ "java/lang/invoke/MethodHandle" ∧ y.cls ≠ "java/lang/invoke/VarHandle" ∧ (parseMethodDescriptor y.desc).map (fun d => d.parameters.length) = some n0) (hw0 : ws = Cond.code y bytes maxL ret :: ws') (hR : fr + 1 ≤ R.frames ∧ 8 + (maxL + 11) + lo ≤ R.locals) (hrc : vwCl[ci]? = some (C2, T, N)) (hre : w[q0]? = some (b, .inr (ci, fs))) (hcut : sg_cutP w wc wc w) (hlen : As.length = n0) (hroom : (st.map fun v => v.category).sum ≤ 8) (hcs : cells ≤ R.cells ∧ slots ≤ R.slots) (hdg : decode cc pc = .ok (.invokevirtual index, 3)) (hn : pc + 3 = n) {stk : List Value} (hstk : stk = As.reverse ++ .ref b :: st) (kk : sg_G p l e R s m args below meth c D A nL cells slots Q n lv (.double v :: st) w) : sg_G p l e R s m args below meth c D A nL cells slots Q pc lv stk w := by
  subst hn
  subst hstk
  intro H locs ls hP hD hS hh
  obtain ⟨wr, hp1, hp2⟩ := hcut
  have hPp := sg_permP hp1 hP
  have hDp := sg_permD hp1 hD
  have hF : ∀ q, va_A wc H.size q → A q := sg_cutP_free hDp (fun q h => C.2.2.2.2.2.2.1 q (Nat.le_trans hS.1 h))
  refine va_calld (va_runV (C := C2) (b := b) (As := As) (rest := st) ⟨C.1, C.2.1, C.2.2.1, C.2.2.2.1, C.2.2.2.2.1⟩ (hM H.size) (cwV n0 C.2.2.2.2.1 hG hw0 rfl rfl hd hR) ⟨sg_blind C.2.2.2.2.2.2.2.1, va_recv C.2.2.2.2.2.1 hP hrc hre, sg_preP_of C hPp hDp hS⟩ rfl hlen hh.1 rfl (lv_room hroom) hdg hcs) hS (fun q _ h => hF q h) hF (fun r1 u t H1 locs1 ht hvm hw hB hz1 hk1 hS1 => ?_)
  have hw : r1 = v := hw
  subst hw
  obtain ⟨b1, b2⟩ := sg_backP C hp2 hPp hDp hS ht hB hk1
  exact kk H1 locs1 ls b1 b2 hS1 hh
theorem g_fret {w0 : va_W} {sz : Nat} {v : UInt32} (C : sg_C p R s m args meth c cc nL own Ts D Y Z (va_A w0 s.heap.size)) (hr : meth.sig.returnType = some .float) (hQ : Q = MQ below (va_Qf (fun (r : UInt32) (_ : Unit) => r = v) (fun _ => sg_post D Y w0 w0 sz) (va_A w0 sz)) args s cells slots (va_A w0 s.heap.size)) (hsz : s.heap.size = sz) (hdg : decode cc pc = .ok (.freturn, 1)) : sg_G p l e R s m args below meth c D (va_A w0 s.heap.size) nL cells slots Q pc lv [.float v] w0 := by
  subst hQ
  subst hsz
  intro H locs ls hP hD hS hl
  exact W.fret (v := v) C.1 C.2.1 hr (fun t ht hW => ⟨⟨v, (), rfl, rfl, by rw [ht]; exact hP, va_K.moved hW.alike C.2.2.2.2.2.1, hD⟩, hS.F ht⟩) hS.2.2 hdg C.2.2.2.2.2.2.2.2.2
theorem g_callDf (n : Nat) (C : sg_C p R s m args meth c cc nL own Ts D Y Z A) {y : MethodName} {bytes : ByteArray} {maxL n0 index : Nat} {ret : Option FieldType} {ws ws' : List Cond} {fr lo : Nat} {As : List Value} {wc : va_W} {C2 : String} {b : Nat} {q0 ci : Nat} {T : u_T} {N : Nat} {fs : List Value} {v : UInt32} (hM : sg_MDf l y ws fr lo D Y Z (.ref b :: As) wc v) (hG : GoodIn Ts (wsV own index C2 y ws)) (hd : y.cls = C2 ∧ y.cls ≠ "java/lang/invoke/MethodHandle" ∧ y.cls ≠ "java/lang/invoke/VarHandle" ∧ (parseMethodDescriptor y.desc).map (fun d => d.parameters.length) = some n0) (hw0 : ws = Cond.code y bytes maxL ret :: ws') (hR : fr + 1 ≤ R.frames ∧ 8 + (maxL + 11) + lo ≤ R.locals) (hrc : vwCl[ci]? = some (C2, T, N)) (hre : w[q0]? = some (b, .inr (ci, fs))) (hcut : sg_cutP w wc wc w) (hlen : As.length = n0) (hroom : (st.map fun v => v.category).sum ≤ 8) (hcs : cells ≤ R.cells ∧ slots ≤ R.slots) (hdg : decode cc pc = .ok (.invokevirtual index, 3)) (hn : pc + 3 = n) {stk : List Value} (hstk : stk = As.reverse ++ .ref b :: st) (kk : sg_G p l e R s m args below meth c D A nL cells slots Q n lv (.float v :: st) w) : sg_G p l e R s m args below meth c D A nL cells slots Q pc lv stk w := by
  subst hn
  subst hstk
  intro H locs ls hP hD hS hh
  obtain ⟨wr, hp1, hp2⟩ := hcut
  have hPp := sg_permP hp1 hP
  have hDp := sg_permD hp1 hD
  have hF : ∀ q, va_A wc H.size q → A q := sg_cutP_free hDp (fun q h => C.2.2.2.2.2.2.1 q (Nat.le_trans hS.1 h))
  refine va_callf (va_runV (C := C2) (b := b) (As := As) (rest := st) ⟨C.1, C.2.1, C.2.2.1, C.2.2.2.1, C.2.2.2.2.1⟩ (hM H.size) (cwV n0 C.2.2.2.2.1 hG hw0 rfl rfl hd hR) ⟨sg_blind C.2.2.2.2.2.2.2.1, va_recv C.2.2.2.2.2.1 hP hrc hre, sg_preP_of C hPp hDp hS⟩ rfl hlen hh.1 rfl (lv_room hroom) hdg hcs) hS (fun q _ h => hF q h) hF (fun r1 u t H1 locs1 ht hvm hw hB hz1 hk1 hS1 => ?_)
  have hw : r1 = v := hw
  subst hw
  obtain ⟨b1, b2⟩ := sg_backP C hp2 hPp hDp hS ht hB hk1
  exact kk H1 locs1 ls b1 b2 hS1 hh
end SGD
theorem kiX7_meanSun_X7 : ∀ w ∈ u_ws RX7 TX7 10, w ∈ wsX7_meanSun := by decide +kernel
theorem kiX7_meanSun_X3 : ∀ w ∈ u_ws RX3 TX3 8, w ∈ wsX7_meanSun := by decide +kernel
theorem kfX7_meanSun_10 : Cond.fieldLink RX7 10 "WeatherMinistry" "now" "LWeatherMinistry$Realm;" ∈ wsX7_meanSun := by decide +kernel
theorem kfX7_meanSun_154 : Cond.fieldLink RX7 154 "WeatherMinistry$Realm" "sun" "[I" ∈ wsX7_meanSun := by decide +kernel
theorem kdX7_meanSun : Cond.constantDouble RX7 186 (4617315517961601024) ∈ wsX7_meanSun := by decide +kernel
theorem kiX7_paidShare_X7 : ∀ w ∈ u_ws RX7 TX7 10, w ∈ wsX7_paidShare := by decide +kernel
theorem kiX7_paidShare_X3 : ∀ w ∈ u_ws RX3 TX3 8, w ∈ wsX7_paidShare := by decide +kernel
theorem kiX7_paidShare_X0 : ∀ w ∈ u_ws RX0 TX0 8, w ∈ wsX7_paidShare := by decide +kernel
theorem kfX7_paidShare_10 : Cond.fieldLink RX7 10 "WeatherMinistry" "now" "LWeatherMinistry$Realm;" ∈ wsX7_paidShare := by decide +kernel
theorem kfX7_paidShare_188 : Cond.fieldLink RX7 188 "WeatherMinistry$Realm" "books" "LWeatherMinistry$Books;" ∈ wsX7_paidShare := by decide +kernel
theorem kfX7_paidShare_192 : Cond.fieldLink RX7 192 "WeatherMinistry$Books" "ended" "I" ∈ wsX7_paidShare := by decide +kernel
theorem kfX7_paidShare_197 : Cond.fieldLink RX7 197 "WeatherMinistry$Books" "endedInFull" "I" ∈ wsX7_paidShare := by decide +kernel
def fp_mean (r : Int32) : UInt64 := FP.ddiv (FP.i2d r) 4617315517961601024
def fp_share (a b : Int32) : UInt32 := if b = 0 then FP.fconst0 else FP.fdiv (FP.i2f a) (FP.i2f b)
set_option maxHeartbeats 4000000 in
set_option maxRecDepth 100000 in
theorem c_X7_meanSun (l : Launch) {D : va_G} {Y : Nat → ClassId} {Z : (Nat → Prop) → State → Heap → Prop} (hZ : sg_Zok Z) {ad : Nat → Nat} {σ : sg_S} {r : Int32} (hF : f_X7_sumOf (sg_e1 2 σ) = some r) (hne : vf_n64 (fp_mean r)) : sg_MDd l yX7_meanSun wsX7_meanSun 1 25 D Y Z [.ref (ad 0)] (ww_X7TN Y ad σ) (fp_mean r) := by
  intro sz
  refine sg_enter (own := RX7) (maxL := 1) (ret := some .double) (cc := cX7_meanSun) (by decide +kernel) rfl rfl (Nat.le_of_ble_eq_true rfl) hZ ?_
  intro p e s m args below meth c C hr Q hQ hsz
  refine g_lv (lv2 := [(0, .ref (ad 0))]) [0] rfl ?_
  refine g_aload_n 1 C dX7_meanSun_0 rfl rfl rfl ?_
  refine g_get 4 C (own := RX7) (C1 := RX7) (T := TX7) 0 0 (.ref (ad 1)) kiX7_meanSun_X7 kfX7_meanSun_10 rfl dX7_meanSun_1 rfl rfl rfl (by decide) rfl ?_
  refine g_get 7 C (own := RX7) (C1 := RX3) (T := TX3) 1 1 (.ref (ad 2)) kiX7_meanSun_X3 kfX7_meanSun_154 rfl dX7_meanSun_4 rfl rfl rfl (by decide) rfl ?_
  refine g_callSi 10 C (w2 := (ww_X7TN Y ad σ)) (As := [.ref (ad 2)]) (st := []) (n0 := 1) [2] [0, 1, 3, 4, 5, 6, 7, 8, 9, 10, 11, 12, 13] [0, 1, 13, 2, 3, 4, 5, 6, 7, 8, 9, 10, 11, 12] (c_X7_sumOf l hZ (ad := (sg_e1 2 ad)) hF) gX7_meanSun_X7_sumOf ⟨by decide +kernel, by decide +kernel, rfl⟩ rfl ⟨Nat.le_of_ble_eq_true rfl, Nat.le_of_ble_eq_true rfl⟩ ⟨rfl, rfl, rfl, by decide, rfl, rfl⟩ rfl rfl (Nat.le_of_ble_eq_true rfl) ⟨Nat.le_refl _, Nat.le_refl _⟩ dX7_meanSun_7 rfl rfl ?_
  refine g_i2d 11 C dX7_meanSun_10 rfl ?_
  refine g_ldc2d 14 C kdX7_meanSun dX7_meanSun_11 rfl ?_
  refine g_ddiv 15 C hne dX7_meanSun_14 rfl ?_
  exact g_dret C hr hQ hsz dX7_meanSun_15
set_option maxHeartbeats 4000000 in
set_option maxRecDepth 100000 in
theorem c_X7_paidShare (l : Launch) {D : va_G} {Y : Nat → ClassId} {Z : (Nat → Prop) → State → Heap → Prop} (hZ : sg_Zok Z) {ad : Nat → Nat} {σ : sg_S} (hne : ∀ _ : ¬ σ 13 6 = 0, vf_n32 (FP.fdiv (FP.i2f (σ 13 7)) (FP.i2f (σ 13 6)))) : sg_MDf l yX7_paidShare wsX7_paidShare 0 0 D Y Z [.ref (ad 0)] (ww_X7TN Y ad σ) (fp_share (σ 13 7) (σ 13 6)) := by
  intro sz
  refine sg_enter (own := RX7) (maxL := 1) (ret := some .float) (cc := cX7_paidShare) (by decide +kernel) rfl rfl (Nat.le_of_ble_eq_true rfl) hZ ?_
  intro p e s m args below meth c C hr Q hQ hsz
  refine g_lv (lv2 := [(0, .ref (ad 0))]) [0] rfl ?_
  refine g_aload_n 1 C dX7_paidShare_0 rfl rfl rfl ?_
  refine g_get 4 C (own := RX7) (C1 := RX7) (T := TX7) 0 0 (.ref (ad 1)) kiX7_paidShare_X7 kfX7_paidShare_10 rfl dX7_paidShare_1 rfl rfl rfl (by decide) rfl ?_
  refine g_get 7 C (own := RX7) (C1 := RX3) (T := TX3) 1 7 (.ref (ad 13)) kiX7_paidShare_X3 kfX7_paidShare_188 rfl dX7_paidShare_4 rfl rfl rfl (by decide) rfl ?_
  refine g_get 10 C (own := RX7) (C1 := RX0) (T := TX0) 13 6 (.int (σ 13 6)) kiX7_paidShare_X0 kfX7_paidShare_192 rfl dX7_paidShare_7 rfl rfl rfl (by decide) rfl ?_
  by_cases hx : σ 13 6 = 0
  · refine g_if_ne 13 15 C dX7_paidShare_10 (by decide) rfl (T := none) (E := some ()) (v := ()) (if_pos hx) (fun h => by cases h) (fun _ => ?_)
    refine g_fconst0 14 C dX7_paidShare_13 rfl ?_
    have e : fp_share (σ 13 7) (σ 13 6) = FP.fconst0 := by unfold fp_share; rw [if_pos hx]
    rw [e] at hQ
    exact g_fret C hr hQ hsz dX7_paidShare_14
  · refine g_if_ne 13 15 C dX7_paidShare_10 (by decide) rfl (T := some ()) (E := none) (v := ()) (if_neg hx) (fun _ => ?_) (fun h => by cases h)
    refine g_aload_n 16 C dX7_paidShare_15 rfl rfl rfl ?_
    refine g_get 19 C (own := RX7) (C1 := RX7) (T := TX7) 0 0 (.ref (ad 1)) kiX7_paidShare_X7 kfX7_paidShare_10 rfl dX7_paidShare_16 rfl rfl rfl (by decide) rfl ?_
    refine g_get 22 C (own := RX7) (C1 := RX3) (T := TX3) 1 7 (.ref (ad 13)) kiX7_paidShare_X3 kfX7_paidShare_188 rfl dX7_paidShare_19 rfl rfl rfl (by decide) rfl ?_
    refine g_get 25 C (own := RX7) (C1 := RX0) (T := TX0) 13 7 (.int (σ 13 7)) kiX7_paidShare_X0 kfX7_paidShare_197 rfl dX7_paidShare_22 rfl rfl rfl (by decide) rfl ?_
    refine g_i2f 26 C dX7_paidShare_25 rfl ?_
    refine g_aload_n 27 C dX7_paidShare_26 rfl rfl rfl ?_
    refine g_get 30 C (own := RX7) (C1 := RX7) (T := TX7) 0 0 (.ref (ad 1)) kiX7_paidShare_X7 kfX7_paidShare_10 rfl dX7_paidShare_27 rfl rfl rfl (by decide) rfl ?_
    refine g_get 33 C (own := RX7) (C1 := RX3) (T := TX3) 1 7 (.ref (ad 13)) kiX7_paidShare_X3 kfX7_paidShare_188 rfl dX7_paidShare_30 rfl rfl rfl (by decide) rfl ?_
    refine g_get 36 C (own := RX7) (C1 := RX0) (T := TX0) 13 6 (.int (σ 13 6)) kiX7_paidShare_X0 kfX7_paidShare_192 rfl dX7_paidShare_33 rfl rfl rfl (by decide) rfl ?_
    refine g_i2f 37 C dX7_paidShare_36 rfl ?_
    have e : fp_share (σ 13 7) (σ 13 6) = FP.fdiv (FP.i2f (σ 13 7)) (FP.i2f (σ 13 6)) := by unfold fp_share; rw [if_neg hx]
    rw [e] at hQ
    refine g_fdiv 38 C (hne hx) dX7_paidShare_37 rfl ?_
    exact g_fret C hr hQ hsz dX7_paidShare_38
/-- what is divided here is a number, and equal to itself -/
theorem fp_nan {b : UInt64} (h : isNaN64 b = true) : FP.Core.val64 b = .nan := by
  have h1 := isNaN64_iff.mp h
  have e : b.toNat &&& 0x7fffffffffffffff = b.toNat % 2 ^ 63 := Nat.and_two_pow_sub_one_eq_mod _ 63
  rw [e] at h1
  unfold FP.Core.val64 FP.Core.decode
  have h2 : FP.Core.fieldE FP.Core.b64 b.toNat = FP.Core.b64.exps - 1 := by
    show b.toNat / 2 ^ 52 % 2 ^ 11 = 2 ^ 11 - 1
    omega
  have h3 : ¬ FP.Core.fieldT FP.Core.b64 b.toNat = 0 := by
    show ¬ b.toNat % 2 ^ 52 = 0
    omega
  rw [if_pos h2, if_neg h3]
theorem fp_nan32 {b : UInt32} (h : isNaN32 b = true) : FP.Core.val32 b = .nan := by
  have h1 := isNaN32_iff.mp h
  have e : b.toNat &&& 0x7fffffff = b.toNat % 2 ^ 31 := Nat.and_two_pow_sub_one_eq_mod _ 31
  rw [e] at h1
  unfold FP.Core.val32 FP.Core.decode
  have h2 : FP.Core.fieldE FP.Core.b32 b.toNat = FP.Core.b32.exps - 1 := by
    show b.toNat / 2 ^ 23 % 2 ^ 8 = 2 ^ 8 - 1
    omega
  have h3 : ¬ FP.Core.fieldT FP.Core.b32 b.toNat = 0 := by
    show ¬ b.toNat % 2 ^ 23 = 0
    omega
  rw [if_pos h2, if_neg h3]
theorem fp_n64 {r : UInt64} (h : FP.Core.val64 r ≠ .nan) : vf_n64 r := by
  unfold vf_n64
  refine Decidable.byContradiction (fun c => h (fp_nan ?_))
  unfold isNaN64
  rw [decide_eq_true_eq]
  exact UInt64.not_le.mp c
theorem fp_n32 {r : UInt32} (h : FP.Core.val32 r ≠ .nan) : vf_n32 r := by
  unfold vf_n32
  refine Decidable.byContradiction (fun c => h (fp_nan32 ?_))
  unfold isNaN32
  rw [decide_eq_true_eq]
  exact UInt32.not_le.mp c
theorem fp_mean1 (r : Int32) : FP.Core.val64 (fp_mean r) ≠ .nan := by
  have h5 : (4617315517961601024 : UInt64) = FP.i2d 5 := by decide +kernel
  have ha := FP.Core.i2d_fin r
  have hz : ¬ FP.Core.DZero (FP.i2d 5) := fun h => FP.Core.i2d_ne_zero (v := 5) (by decide) ((FP.Core.zero_bits2 _).mp h)
  have := FP.Core.ddiv_out (a := FP.i2d r) (b := FP.i2d 5) ((FP.Core.notNaN_iff _).mpr ha.ne_nan) (FP.Core.i2d_fin 5) hz
  unfold fp_mean
  rw [h5]
  exact (FP.Core.notNaN_iff _).mp this
theorem fp_share1 {a b : Int32} (hb : ¬ b = 0) : FP.Core.val32 (FP.fdiv (FP.i2f a) (FP.i2f b)) ≠ .nan := by
  have hz : ¬ FP.Core.FZero (FP.i2f b) := fun h => FP.Core.i2f_ne_zero hb ((FP.Core.zero_bits232 _).mp h)
  have := FP.Core.fdiv_out (a := FP.i2f a) (b := FP.i2f b) ((FP.Core.notNaN_iff32 _).mpr (FP.Core.i2f_fin a).ne_nan) (FP.Core.i2f_fin b) hz
  exact (FP.Core.notNaN_iff32 _).mp this
theorem fp_meanN (r : Int32) : vf_n64 (fp_mean r) ∧ Op.cmpValue (FP.dcmp (fp_mean r) (fp_mean r)) CmpOp.l = 0 := by
  refine ⟨fp_n64 (fp_mean1 r), ?_⟩
  have e : FP.dcmp (fp_mean r) (fp_mean r) = some .eq := FP.Core.dcmp_self (fp_mean1 r)
  rw [e]
  rfl
theorem fp_shareN (a b : Int32) : (∀ _ : ¬ b = 0, vf_n32 (FP.fdiv (FP.i2f a) (FP.i2f b))) ∧ Op.cmpValue (FP.fcmp (fp_share a b) (fp_share a b)) CmpOp.l = 0 := by
  refine ⟨fun hb => fp_n32 (fp_share1 hb), ?_⟩
  by_cases hb : b = 0
  · have e : fp_share a b = FP.fconst0 := by
      unfold fp_share
      rw [if_pos hb]
    rw [e]
    decide +kernel
  · have e0 : fp_share a b = FP.fdiv (FP.i2f a) (FP.i2f b) := by
      unfold fp_share
      rw [if_neg hb]
    rw [e0]
    have e : FP.fcmp (FP.fdiv (FP.i2f a) (FP.i2f b)) (FP.fdiv (FP.i2f a) (FP.i2f b)) = some .eq := FP.Core.fcmp_self (fp_share1 hb)
    rw [e]
    rfl
