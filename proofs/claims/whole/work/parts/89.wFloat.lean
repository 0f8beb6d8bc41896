/-! THE MEAN AND THE SHARE: methods that may draw -/
def sg_MDd (l : Launch) (y : MethodName) (ws : List Cond) (fr lo : Nat) (D : va_G) (Y : Nat → ClassId) (Z : (Nat → Prop) → State → Heap → Prop) (av : List Value) (w : va_W) (v : UInt64) : Prop := ∀ sz : Nat, MetD lw_cs l y ws ({ frames := fr, cells := 0, slots := 0, locals := lo }) (va_Pc av (sg_pre D Y Z w sz)) (va_Qd (fun (r : UInt64) (_ : Unit) => alike64 r v = true) (fun _ => sg_post D Y w w sz) (va_A w sz)) 0 0 (va_A w sz)
def sg_MDf (l : Launch) (y : MethodName) (ws : List Cond) (fr lo : Nat) (D : va_G) (Y : Nat → ClassId) (Z : (Nat → Prop) → State → Heap → Prop) (av : List Value) (w : va_W) (v : UInt32) : Prop := ∀ sz : Nat, MetD lw_cs l y ws ({ frames := fr, cells := 0, slots := 0, locals := lo }) (va_Pc av (sg_pre D Y Z w sz)) (va_Qf (fun (r : UInt32) (_ : Unit) => alike32 r v = true) (fun _ => sg_post D Y w w sz) (va_A w sz)) 0 0 (va_A w sz)
section SGD
variable {p : Program} {l : Launch} {e : Env} {R : Room} {s : State} {m : MethodId} {args : Array Value} {below : List Frame} {meth : Method} {c : Code} {D : va_G} {Y : Nat → ClassId} {Z : (Nat → Prop) → State → Heap → Prop} {A : Nat → Prop} {nL : Nat} {cells slots : Nat} {Q : State → Prop} {cc : ByteArray} {own : String} {Ts : List Cond} {pc : Nat} {lv : List (Nat × Value)} {st : List Value} {w : va_W} {x y : Int32}
theorem sg_enterD {y : MethodName} {ws ws' : List Cond} {fr lo maxL : Nat} {cc : ByteArray} {own : String} {ret : Option FieldType} {av : List Value} {w : va_W} {sz : Nat} {Qc : Array Value → State → Outcome → State → Prop}
    (hy : plainName y.cls = true) (hw : ws = Cond.code y cc maxL ret :: ws') (hcls : y.cls = own) (hle : (lg_sl av).length ≤ maxL) (hZ : sg_Zok Z)
    (body : ∀ (p : Program) (e : Env) (s : State) (m : MethodId) (args : Array Value) (below : List Frame) (meth : Method) (c : Code), sg_C p ({ frames := fr, cells := 0, slots := 0, locals := lo } : Room) s m args meth c cc maxL own ws D Y Z (va_A w s.heap.size) → meth.sig.returnType = ret → (∀ Q : State → Prop, Q = MQD lw_cs below (Qc) args s 0 0 (va_A w s.heap.size) → s.heap.size = sz → sg_G p l e ({ frames := fr, cells := 0, slots := 0, locals := lo } : Room) s m args below meth c D (va_A w s.heap.size) maxL 0 0 Q 0 (lv_args 0 av) [] w)) :
    MetD lw_cs l y ws ({ frames := fr, cells := 0, slots := 0, locals := lo } : Room) (va_Pc av (sg_pre D Y Z w sz)) Qc 0 0 (va_A w sz) := by
  refine MetD.ofW (cc := cc) (maxL := maxL) (ret := ret) hy hw ?_
  intro p e s m args below meth c s₁ B hml hv hd0
  obtain ⟨rfl, hsz, hP, hK, hD0, hZ0⟩ := hv
  subst hsz
  have hts := atoms_spec (ws := ws) B.pre
  have hown : s.vm.findClass own = some m.cls := by rw [← hcls]; exact findClass_of_methodNamed B.named
  have hD := hD0.self (sz := s.heap.size)
  have C : sg_C p ({ frames := fr, cells := 0, slots := 0, locals := lo } : Room) s m av.toArray meth c cc maxL own ws D Y Z (va_A w s.heap.size) := ⟨B.exec, B.bytes, hml, hown, hts, hK, fun q h => Or.inr h, hZ, hZ0, B.notSynchronized⟩
  have hl := lv_entry av (n := maxL) hle
  rw [lg_entry_eq]
  exact body p e s m _ below meth c C B.returns _ rfl rfl _ _ _ hP hD va_S.rf hl
theorem g_i2f (n : Nat) (C : sg_C p R s m args meth c cc nL own Ts D Y Z A) (hdg : decode cc pc = .ok (.i2f, 1)) (hn : pc + 1 = n) (kk : sg_G p l e R s m args below meth c D A nL cells slots Q n lv (.float (FP.i2f x) :: st) w) : sg_G p l e R s m args below meth c D A nL cells slots Q pc lv (.int x :: st) w := by
  subst hn
  exact fun H locs ls hP hD hS hh => lv_i2f C.1 C.2.1 hdg (kk H locs ls hP hD hS hh)
theorem g_i2d (n : Nat) (C : sg_C p R s m args meth c cc nL own Ts D Y Z A) (hdg : decode cc pc = .ok (.i2d, 1)) (hn : pc + 1 = n) (kk : sg_G p l e R s m args below meth c D A nL cells slots Q n lv (.double (FP.i2d x) :: st) w) : sg_G p l e R s m args below meth c D A nL cells slots Q pc lv (.int x :: st) w := by
  subst hn
  exact fun H locs ls hP hD hS hh => lv_i2d C.1 C.2.1 hdg (kk H locs ls hP hD hS hh)
theorem g_ldc2d (n : Nat) (C : sg_C p R s m args meth c cc nL own Ts D Y Z A) {index : Nat} {v : UInt64} (hk : Cond.constantDouble own index v ∈ Ts) (hdg : decode cc pc = .ok (.ldc2_w index, 3)) (hn : pc + 3 = n) (kk : sg_G p l e R s m args below meth c D A nL cells slots Q n lv (.double v :: st) w) : sg_G p l e R s m args below meth c D A nL cells slots Q pc lv st w := by
  subst hn
  exact fun H locs ls hP hD hS hh => lv_ldc2d C.1 C.2.1 C.2.2.2.1 (C.2.2.2.2.1 _ hk) hdg (kk H locs ls hP hD hS hh)
theorem g_fconst0 (n : Nat) (C : sg_C p R s m args meth c cc nL own Ts D Y Z A) (hdg : decode cc pc = .ok (.fconst 0, 1)) (hn : pc + 1 = n) (kk : sg_G p l e R s m args below meth c D A nL cells slots Q n lv (.float FP.fconst0 :: st) w) : sg_G p l e R s m args below meth c D A nL cells slots Q pc lv st w := by
  subst hn
  exact fun H locs ls hP hD hS hh => lv_fconst0 C.1 C.2.1 hdg (kk H locs ls hP hD hS hh)
theorem g_ddivEnd {w0 : va_W} {sz : Nat} {x y v : UInt64} (C : sg_C p R s m args meth c cc nL own Ts D Y Z (va_A w0 s.heap.size)) (hr : meth.sig.returnType = some .double) (hQ : Q = MQD lw_cs below (va_Qd (fun (r : UInt64) (_ : Unit) => alike64 r v = true) (fun _ => sg_post D Y w0 w0 sz) (va_A w0 sz)) args s cells slots (va_A w0 s.heap.size)) (hsz : s.heap.size = sz) (hdg : decode cc pc = .ok (.ddiv, 1)) (hdg2 : decode cc (pc + 1) = .ok (.dreturn, 1)) (hv : FP.ddiv x y = v) : sg_G p l e R s m args below meth c D (va_A w0 s.heap.size) nL cells slots Q pc lv [.double y, .double x] w0 := by
  subst hQ
  subst hsz
  subst hv
  intro H locs ls hP hD hS hl
  refine lv_ddiv_any (d0 := s.drawn) (cs := lw_cs) (Drawn.sameBut.refl _ _) lw_bits C.1 C.2.1 hdg (fun r d1 hal hd1 => ?_)
  refine W.endD hd1 ?_
  exact W.dret C.1 C.2.1 hr (fun t ht hW => ⟨⟨r, (), rfl, hal, by rw [ht]; exact hP, va_K.moved hW.alike C.2.2.2.2.2.1, hD⟩, hS.F ht⟩) hS.2.2 hdg2 C.2.2.2.2.2.2.2.2.2
theorem g_fdivEnd {w0 : va_W} {sz : Nat} {x y v : UInt32} (C : sg_C p R s m args meth c cc nL own Ts D Y Z (va_A w0 s.heap.size)) (hr : meth.sig.returnType = some .float) (hQ : Q = MQD lw_cs below (va_Qf (fun (r : UInt32) (_ : Unit) => alike32 r v = true) (fun _ => sg_post D Y w0 w0 sz) (va_A w0 sz)) args s cells slots (va_A w0 s.heap.size)) (hsz : s.heap.size = sz) (hdg : decode cc pc = .ok (.fdiv, 1)) (hdg2 : decode cc (pc + 1) = .ok (.freturn, 1)) (hv : FP.fdiv x y = v) : sg_G p l e R s m args below meth c D (va_A w0 s.heap.size) nL cells slots Q pc lv [.float y, .float x] w0 := by
  subst hQ
  subst hsz
  subst hv
  intro H locs ls hP hD hS hl
  refine lv_fdiv_any (d0 := s.drawn) (cs := lw_cs) (Drawn.sameBut.refl _ _) lw_bits C.1 C.2.1 hdg (fun r d1 hal hd1 => ?_)
  refine W.endD hd1 ?_
  exact W.fret C.1 C.2.1 hr (fun t ht hW => ⟨⟨r, (), rfl, hal, by rw [ht]; exact hP, va_K.moved hW.alike C.2.2.2.2.2.1, hD⟩, hS.F ht⟩) hS.2.2 hdg2 C.2.2.2.2.2.2.2.2.2
theorem g_fretEnd {w0 : va_W} {sz : Nat} {x v : UInt32} (C : sg_C p R s m args meth c cc nL own Ts D Y Z (va_A w0 s.heap.size)) (hr : meth.sig.returnType = some .float) (hQ : Q = MQD lw_cs below (va_Qf (fun (r : UInt32) (_ : Unit) => alike32 r v = true) (fun _ => sg_post D Y w0 w0 sz) (va_A w0 sz)) args s cells slots (va_A w0 s.heap.size)) (hsz : s.heap.size = sz) (hdg2 : decode cc pc = .ok (.freturn, 1)) (hv : x = v) : sg_G p l e R s m args below meth c D (va_A w0 s.heap.size) nL cells slots Q pc lv [.float x] w0 := by
  subst hQ
  subst hsz
  subst hv
  intro H locs ls hP hD hS hl
  refine W.endD (d0 := s.drawn) (cs := lw_cs) (Drawn.sameBut.refl _ _) ?_
  exact W.fret C.1 C.2.1 hr (fun t ht hW => ⟨⟨x, (), rfl, by simp [alike32], by rw [ht]; exact hP, va_K.moved hW.alike C.2.2.2.2.2.1, hD⟩, hS.F ht⟩) hS.2.2 hdg2 C.2.2.2.2.2.2.2.2.2
end SGD
theorem kiX7_meanSun_X7 : ∀ w ∈ u_ws RX7 TX7 10, w ∈ wsX7_meanSun := by decide +kernel
theorem kiX7_meanSun_X3 : ∀ w ∈ u_ws RX3 TX3 8, w ∈ wsX7_meanSun := by decide +kernel
theorem kfX7_meanSun_10 : Cond.fieldLink RX7 10 "WeatherMinistry" "now" "LWeatherMinistry$Realm;" ∈ wsX7_meanSun := by decide +kernel
theorem kfX7_meanSun_154 : Cond.fieldLink RX7 154 "WeatherMinistry$Realm" "sun" "[I" ∈ wsX7_meanSun := by decide +kernel
theorem kdX7_meanSun : Cond.constantDouble RX7 186 (4617315517961601024) ∈ wsX7_meanSun := by decide +kernel
theorem kdX8_meanSun : Cond.constantDouble RX8 170 (4617315517961601024) ∈ wsX8_meanSun := by decide +kernel
theorem kiX7_paidShare_X7 : ∀ w ∈ u_ws RX7 TX7 10, w ∈ wsX7_paidShare := by decide +kernel
theorem kiX7_paidShare_X3 : ∀ w ∈ u_ws RX3 TX3 8, w ∈ wsX7_paidShare := by decide +kernel
theorem kiX7_paidShare_X0 : ∀ w ∈ u_ws RX0 TX0 8, w ∈ wsX7_paidShare := by decide +kernel
theorem kfX7_paidShare_10 : Cond.fieldLink RX7 10 "WeatherMinistry" "now" "LWeatherMinistry$Realm;" ∈ wsX7_paidShare := by decide +kernel
theorem kfX7_paidShare_188 : Cond.fieldLink RX7 188 "WeatherMinistry$Realm" "books" "LWeatherMinistry$Books;" ∈ wsX7_paidShare := by decide +kernel
theorem kfX7_paidShare_192 : Cond.fieldLink RX7 192 "WeatherMinistry$Books" "ended" "I" ∈ wsX7_paidShare := by decide +kernel
theorem kfX7_paidShare_197 : Cond.fieldLink RX7 197 "WeatherMinistry$Books" "endedInFull" "I" ∈ wsX7_paidShare := by decide +kernel
theorem kiX8_paidShare_X8 : ∀ w ∈ u_ws RX8 TX8 27, w ∈ wsX8_paidShare := by decide +kernel
theorem kfX8_paidShare_13 : Cond.fieldLink RX8 13 "WeatherMinistryModel" "v" "[I" ∈ wsX8_paidShare := by decide +kernel
def fp_mean (r : Int32) : UInt64 := FP.ddiv (FP.i2d r) 4617315517961601024
def fp_share (a b : Int32) : UInt32 := if b = 0 then FP.fconst0 else FP.fdiv (FP.i2f a) (FP.i2f b)
set_option maxHeartbeats 4000000 in
set_option maxRecDepth 100000 in
theorem c_X7_meanSun (l : Launch) {D : va_G} {Y : Nat → ClassId} {Z : (Nat → Prop) → State → Heap → Prop} (hZ : sg_Zok Z) {ad : Nat → Nat} {σ : sg_S} {r : Int32} (hF : f_X7_sumOf (sg_e1 2 σ) = some r) : sg_MDd l yX7_meanSun wsX7_meanSun 1 25 D Y Z [.ref (ad 0)] (ww_X7TN Y ad σ) (fp_mean r) := by
  intro sz
  refine sg_enterD (own := RX7) (maxL := 1) (ret := some .double) (cc := cX7_meanSun) (by decide +kernel) rfl rfl (Nat.le_of_ble_eq_true rfl) hZ ?_
  intro p e s m args below meth c C hr Q hQ hsz
  refine g_lv (lv2 := [(0, .ref (ad 0))]) [0] rfl ?_
  refine g_aload_n 1 C dX7_meanSun_0 rfl rfl rfl ?_
  refine g_get 4 C (own := RX7) (C1 := RX7) (T := TX7) 0 0 (.ref (ad 1)) kiX7_meanSun_X7 kfX7_meanSun_10 rfl dX7_meanSun_1 rfl rfl rfl (by decide) rfl ?_
  refine g_get 7 C (own := RX7) (C1 := RX3) (T := TX3) 1 1 (.ref (ad 2)) kiX7_meanSun_X3 kfX7_meanSun_154 rfl dX7_meanSun_4 rfl rfl rfl (by decide) rfl ?_
  refine g_callSi 10 C (w2 := (ww_X7TN Y ad σ)) (As := [.ref (ad 2)]) (st := []) (n0 := 1) [2] [0, 1, 3, 4, 5, 6, 7, 8, 9, 10, 11, 12, 13] [0, 1, 13, 2, 3, 4, 5, 6, 7, 8, 9, 10, 11, 12] (c_X7_sumOf l hZ (ad := (sg_e1 2 ad)) hF) gX7_meanSun_X7_sumOf ⟨by decide +kernel, by decide +kernel, rfl⟩ rfl ⟨Nat.le_of_ble_eq_true rfl, Nat.le_of_ble_eq_true rfl⟩ ⟨rfl, rfl, rfl, by decide, rfl, rfl⟩ rfl rfl (Nat.le_of_ble_eq_true rfl) ⟨Nat.le_refl _, Nat.le_refl _⟩ dX7_meanSun_7 rfl rfl ?_
  refine g_i2d 11 C dX7_meanSun_10 rfl ?_
  refine g_ldc2d 14 C kdX7_meanSun dX7_meanSun_11 rfl ?_
  exact g_ddivEnd C hr hQ hsz dX7_meanSun_14 dX7_meanSun_15 rfl
set_option maxHeartbeats 4000000 in
set_option maxRecDepth 100000 in
theorem c_X8_meanSun (l : Launch) {D : va_G} {Y : Nat → ClassId} {Z : (Nat → Prop) → State → Heap → Prop} (hZ : sg_Zok Z) {ad : Nat → Nat} {σ : sg_S} {r : Int32} (hF : f_X8_all 0 σ = some r) : sg_MDd l yX8_meanSun wsX8_meanSun 2 44 D Y Z [.ref (ad 0)] (ww_X8 Y ad σ) (fp_mean r) := by
  intro sz
  refine sg_enterD (own := RX8) (maxL := 1) (ret := some .double) (cc := cX8_meanSun) (by decide +kernel) rfl rfl (Nat.le_of_ble_eq_true rfl) hZ ?_
  intro p e s m args below meth c C hr Q hQ hsz
  refine g_lv (lv2 := [(0, .ref (ad 0))]) [0] rfl ?_
  refine g_aload_n 1 C dX8_meanSun_0 rfl rfl rfl ?_
  refine g_iconst 2 C 0 dX8_meanSun_1 rfl (by decide) ?_
  refine g_callVi 5 C (w2 := (ww_X8 Y ad σ)) (As := [.int 0]) (st := []) (n0 := 1) (ci := 9) (q0 := 0) [0, 1, 2, 3, 4, 5, 6, 7, 8, 9, 10, 11, 12] [] [0, 1, 2, 3, 4, 5, 6, 7, 8, 9, 10, 11, 12] (c_X8_all l hZ (ad := ad) hF) gX8_meanSun_X8_all ⟨rfl, by decide +kernel, by decide +kernel, rfl⟩ rfl ⟨Nat.le_of_ble_eq_true rfl, Nat.le_of_ble_eq_true rfl⟩ rfl rfl ⟨rfl, rfl, rfl, by decide, rfl, rfl⟩ rfl rfl (Nat.le_of_ble_eq_true rfl) ⟨Nat.le_refl _, Nat.le_refl _⟩ dX8_meanSun_2 rfl rfl ?_
  refine g_i2d 6 C dX8_meanSun_5 rfl ?_
  refine g_ldc2d 9 C kdX8_meanSun dX8_meanSun_6 rfl ?_
  exact g_ddivEnd C hr hQ hsz dX8_meanSun_9 dX8_meanSun_10 rfl
set_option maxHeartbeats 4000000 in
set_option maxRecDepth 100000 in
theorem c_X7_paidShare (l : Launch) {D : va_G} {Y : Nat → ClassId} {Z : (Nat → Prop) → State → Heap → Prop} (hZ : sg_Zok Z) {ad : Nat → Nat} {σ : sg_S} : sg_MDf l yX7_paidShare wsX7_paidShare 0 0 D Y Z [.ref (ad 0)] (ww_X7TN Y ad σ) (fp_share (σ 13 7) (σ 13 6)) := by
  intro sz
  refine sg_enterD (own := RX7) (maxL := 1) (ret := some .float) (cc := cX7_paidShare) (by decide +kernel) rfl rfl (Nat.le_of_ble_eq_true rfl) hZ ?_
  intro p e s m args below meth c C hr Q hQ hsz
  refine g_lv (lv2 := [(0, .ref (ad 0))]) [0] rfl ?_
  refine g_aload_n 1 C dX7_paidShare_0 rfl rfl rfl ?_
  refine g_get 4 C (own := RX7) (C1 := RX7) (T := TX7) 0 0 (.ref (ad 1)) kiX7_paidShare_X7 kfX7_paidShare_10 rfl dX7_paidShare_1 rfl rfl rfl (by decide) rfl ?_
  refine g_get 7 C (own := RX7) (C1 := RX3) (T := TX3) 1 7 (.ref (ad 13)) kiX7_paidShare_X3 kfX7_paidShare_188 rfl dX7_paidShare_4 rfl rfl rfl (by decide) rfl ?_
  refine g_get 10 C (own := RX7) (C1 := RX0) (T := TX0) 13 6 (.int (σ 13 6)) kiX7_paidShare_X0 kfX7_paidShare_192 rfl dX7_paidShare_7 rfl rfl rfl (by decide) rfl ?_
  by_cases hx : σ 13 6 = 0
  · refine g_if_ne 13 15 C dX7_paidShare_10 (by decide) rfl (T := none) (E := some ()) (v := ()) (if_pos hx) (fun h => by cases h) (fun _ => ?_)
    refine g_fconst0 14 C dX7_paidShare_13 rfl ?_
    exact g_fretEnd C hr hQ hsz dX7_paidShare_14 (by unfold fp_share; rw [if_pos hx])
  · refine g_if_ne 13 15 C dX7_paidShare_10 (by decide) rfl (T := some ()) (E := none) (v := ()) (if_neg hx) (fun _ => ?_) (fun h => by cases h)
    refine g_aload_n 16 C dX7_paidShare_15 rfl rfl rfl ?_
    refine g_get 19 C (own := RX7) (C1 := RX7) (T := TX7) 0 0 (.ref (ad 1)) kiX7_paidShare_X7 kfX7_paidShare_10 rfl dX7_paidShare_16 rfl rfl rfl (by decide) rfl ?_
    refine g_get 22 C (own := RX7) (C1 := RX3) (T := TX3) 1 7 (.ref (ad 13)) kiX7_paidShare_X3 kfX7_paidShare_188 rfl dX7_paidShare_19 rfl rfl rfl (by decide) rfl ?_
    refine g_get 25 C (own := RX7) (C1 := RX0) (T := TX0) 13 7 (.int (σ 13 7)) kiX7_paidShare_X0 kfX7_paidShare_197 rfl dX7_paidShare_22 rfl rfl rfl (by decide) rfl ?_
    refine g_i2f 26 C dX7_paidShare_25 rfl ?_
    refine g_aload_n 27 C dX7_paidShare_26 rfl rfl rfl ?_
    refine g_get 30 C (own := RX7) (C1 := RX7) (T := TX7) 0 0 (.ref (ad 1)) kiX7_paidShare_X7 kfX7_paidShare_10 rfl dX7_paidShare_27 rfl rfl rfl (by decide) rfl ?_
    refine g_get 33 C (own := RX7) (C1 := RX3) (T := TX3) 1 7 (.ref (ad 13)) kiX7_paidShare_X3 kfX7_paidShare_188 rfl dX7_paidShare_30 rfl rfl rfl (by decide) rfl ?_
    refine g_get 36 C (own := RX7) (C1 := RX0) (T := TX0) 13 6 (.int (σ 13 6)) kiX7_paidShare_X0 kfX7_paidShare_192 rfl dX7_paidShare_33 rfl rfl rfl (by decide) rfl ?_
    refine g_i2f 37 C dX7_paidShare_36 rfl ?_
    exact g_fdivEnd C hr hQ hsz dX7_paidShare_37 dX7_paidShare_38 (by unfold fp_share; rw [if_neg hx])
set_option maxHeartbeats 4000000 in
set_option maxRecDepth 100000 in
theorem c_X8_paidShare (l : Launch) {D : va_G} {Y : Nat → ClassId} {Z : (Nat → Prop) → State → Heap → Prop} (hZ : sg_Zok Z) {ad : Nat → Nat} {σ : sg_S} : sg_MDf l yX8_paidShare wsX8_paidShare 0 0 D Y Z [.ref (ad 0)] (ww_X8 Y ad σ) (fp_share (σ 1 8) (σ 1 7)) := by
  intro sz
  refine sg_enterD (own := RX8) (maxL := 1) (ret := some .float) (cc := cX8_paidShare) (by decide +kernel) rfl rfl (Nat.le_of_ble_eq_true rfl) hZ ?_
  intro p e s m args below meth c C hr Q hQ hsz
  refine g_lv (lv2 := [(0, .ref (ad 0))]) [0] rfl ?_
  refine g_aload_n 1 C dX8_paidShare_0 rfl rfl rfl ?_
  refine g_get 4 C (own := RX8) (C1 := RX8) (T := TX8) 0 8 (.ref (ad 1)) kiX8_paidShare_X8 kfX8_paidShare_13 rfl dX8_paidShare_1 rfl rfl rfl (by decide) rfl ?_
  refine g_bipush 6 C 7 dX8_paidShare_4 rfl (by decide) ?_
  refine g_ialdc 7 C 1 7 (σ 1 7) dX8_paidShare_6 rfl rfl (by decide) (by decide) rfl ?_
  by_cases hx : σ 1 7 = 0
  · refine g_if_ne 10 14 C dX8_paidShare_7 (by decide) rfl (T := none) (E := some ()) (v := ()) (if_pos hx) (fun h => by cases h) (fun _ => ?_)
    refine g_fconst0 11 C dX8_paidShare_10 rfl ?_
    refine g_goto 31 C dX8_paidShare_11 (by decide) ?_
    exact g_fretEnd C hr hQ hsz dX8_paidShare_31 (by unfold fp_share; rw [if_pos hx])
  · refine g_if_ne 10 14 C dX8_paidShare_7 (by decide) rfl (T := some ()) (E := none) (v := ()) (if_neg hx) (fun _ => ?_) (fun h => by cases h)
    refine g_aload_n 15 C dX8_paidShare_14 rfl rfl rfl ?_
    refine g_get 18 C (own := RX8) (C1 := RX8) (T := TX8) 0 8 (.ref (ad 1)) kiX8_paidShare_X8 kfX8_paidShare_13 rfl dX8_paidShare_15 rfl rfl rfl (by decide) rfl ?_
    refine g_bipush 20 C 8 dX8_paidShare_18 rfl (by decide) ?_
    refine g_ialdc 21 C 1 8 (σ 1 8) dX8_paidShare_20 rfl rfl (by decide) (by decide) rfl ?_
    refine g_i2f 22 C dX8_paidShare_21 rfl ?_
    refine g_aload_n 23 C dX8_paidShare_22 rfl rfl rfl ?_
    refine g_get 26 C (own := RX8) (C1 := RX8) (T := TX8) 0 8 (.ref (ad 1)) kiX8_paidShare_X8 kfX8_paidShare_13 rfl dX8_paidShare_23 rfl rfl rfl (by decide) rfl ?_
    refine g_bipush 28 C 7 dX8_paidShare_26 rfl (by decide) ?_
    refine g_ialdc 29 C 1 7 (σ 1 7) dX8_paidShare_28 rfl rfl (by decide) (by decide) rfl ?_
    refine g_i2f 30 C dX8_paidShare_29 rfl ?_
    exact g_fdivEnd C hr hQ hsz dX8_paidShare_30 dX8_paidShare_31 (by unfold fp_share; rw [if_neg hx])
/-- both say the same -/
theorem fp_meanE {m : Nat} {σ τ : sg_S} (h : gx_A m σ τ) : ∃ r, f_X7_sumOf (sg_e1 2 σ) = some r ∧ f_X8_all 0 τ = some r := by
  obtain ⟨⟨w, h1, h2, h3⟩, _⟩ := h
  exact ⟨_, ga_cls h1 (q := 2) (p := 1) (k := 0) rfl (Or.inl ⟨rfl, rfl⟩), ga_all h2 (k := 0) (by omega)⟩
theorem fp_shareE {m : Nat} {σ τ : sg_S} (h : gx_A m σ τ) : fp_share (σ 13 7) (σ 13 6) = fp_share (τ 1 8) (τ 1 7) := by
  obtain ⟨⟨w, h1, h2, h3⟩, _⟩ := h
  have a : σ 13 7 = nb (w 8) := h1.1.1 12 7 8 (by unfold nb_lk; omega)
  have b : σ 13 6 = nb (w 7) := h1.1.1 12 6 7 (by unfold nb_lk; omega)
  rw [a, b, h2 8 (by omega), h2 7 (by omega)]
/-- what two alike answers are when they are compared -/
theorem fp_nan {b : UInt64} (h : isNaN64 b = true) : FP.Core.val64 b = .nan := by
  have h1 := isNaN64_iff.mp h
  have e : b.toNat &&& 0x7fffffffffffffff = b.toNat % 2 ^ 63 := Nat.and_two_pow_sub_one_eq_mod _ 63
  rw [e] at h1
  unfold FP.Core.val64 FP.Core.decode
  have h2 : FP.Core.fieldE FP.Core.b64 b.toNat = FP.Core.b64.exps - 1 := by
    show b.toNat / 2 ^ 52 % 2 ^ 11 = 2 ^ 11 - 1
    omega
  have h3 : ¬ FP.Core.fieldT FP.Core.b64 b.toNat = 0 := by
    show ¬ b.toNat % 2 ^ 52 = 0
    omega
  rw [if_pos h2, if_neg h3]
theorem fp_nan32 {b : UInt32} (h : isNaN32 b = true) : FP.Core.val32 b = .nan := by
  have h1 := isNaN32_iff.mp h
  have e : b.toNat &&& 0x7fffffff = b.toNat % 2 ^ 31 := Nat.and_two_pow_sub_one_eq_mod _ 31
  rw [e] at h1
  unfold FP.Core.val32 FP.Core.decode
  have h2 : FP.Core.fieldE FP.Core.b32 b.toNat = FP.Core.b32.exps - 1 := by
    show b.toNat / 2 ^ 23 % 2 ^ 8 = 2 ^ 8 - 1
    omega
  have h3 : ¬ FP.Core.fieldT FP.Core.b32 b.toNat = 0 := by
    show ¬ b.toNat % 2 ^ 23 = 0
    omega
  rw [if_pos h2, if_neg h3]
def fp_al (p v : UInt64) : Prop := p = v ∨ (FP.Core.val64 p = .nan ∧ FP.Core.val64 v = .nan)
theorem fp_of64 {p v : UInt64} (h : alike64 p v = true) : fp_al p v := by
  unfold alike64 at h
  simp only [Bool.or_eq_true, decide_eq_true_eq, Bool.and_eq_true] at h
  rcases h with a | a
  · exact Or.inl a
  · exact Or.inr ⟨fp_nan a.1, fp_nan a.2⟩
theorem fp_wide {r : UInt32} (h : FP.Core.val32 r = .nan) : FP.Core.val64 (FP.f2d r) = .nan := by
  have a : FP.Core.fIsNaN r = true := (FP.Core.fIsNaN_iff r).mpr h
  exact (FP.Core.dIsNaN_iff _).mp ((FP.f2d_nan r).trans a)
theorem fp_of32 {p : UInt64} {r v : UInt32} (h : alike64 p (FP.f2d r) = true) (h2 : alike32 r v = true) : fp_al p (FP.f2d v) := by
  unfold alike32 at h2
  simp only [Bool.or_eq_true, decide_eq_true_eq, Bool.and_eq_true] at h2
  rcases h2 with a | a
  · rw [← a]
    exact fp_of64 h
  · have b := fp_wide (fp_nan32 a.1)
    rcases fp_of64 h with c | c
    · exact Or.inr ⟨by rw [c]; exact b, fp_wide (fp_nan32 a.2)⟩
    · exact Or.inr ⟨c.1, fp_wide (fp_nan32 a.2)⟩
theorem fp_un {p : UInt64} (h : FP.Core.val64 p = .nan) : ¬ Op.cmpValue (FP.dcmp p p) CmpOp.l = 0 := by
  have e : FP.dcmp p p = none := (FP.Core.dcmp_none p p).mpr (Or.inl h)
  rw [e]
  decide
theorem fp_cmp {p q v : UInt64} (hp : fp_al p v) (hq : fp_al q v) : Op.cmpValue (FP.dcmp p q) CmpOp.l = 0 ∨ (¬ Op.cmpValue (FP.dcmp p p) CmpOp.l = 0 ∧ ¬ Op.cmpValue (FP.dcmp q q) CmpOp.l = 0) := by
  by_cases e : p = q
  · subst e
    by_cases h : FP.Core.val64 p = .nan
    · exact Or.inr ⟨fp_un h, fp_un h⟩
    · refine Or.inl ?_
      have e : FP.dcmp p p = some .eq := FP.Core.dcmp_self h
      rw [e]
      rfl
  · rcases hp with a | a <;> rcases hq with b | b
    · exact absurd (a.trans b.symm) e
    · exact Or.inr ⟨fp_un (by rw [a]; exact b.2), fp_un b.1⟩
    · exact Or.inr ⟨fp_un a.1, fp_un (by rw [b]; exact a.2)⟩
    · exact Or.inr ⟨fp_un a.1, fp_un b.1⟩
