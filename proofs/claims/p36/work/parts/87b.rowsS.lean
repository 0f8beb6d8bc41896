/-! STRINGS: rows that their methods want besides -/
section SGS
variable {p : Program} {l : Launch} {e : Env} {R : Room} {s : State} {m : MethodId} {args : Array Value} {below : List Frame} {meth : Method} {c : Code} {D : va_G} {Y : Nat → ClassId} {Z : (Nat → Prop) → State → Heap → Prop} {A : Nat → Prop} {nL : Nat} {cells slots : Nat} {Q : State → Prop} {cc : ByteArray} {own : String} {Ts : List Cond} {pc : Nat} {lv : List (Nat × Value)} {st : List Value} {w : va_W} {x y : Int32}
theorem g_acmp_ne (n t : Nat) (C : sg_C p R s m args meth c cc nL own Ts D Y Z A) {a b : Nat} {off : Int} (hdg : decode cc pc = .ok (.if_acmp .ne off, 3)) (ht : (pc : Int) + off = (t : Int)) (hn : pc + 3 = n) (kt : sg_G p l e R s m args below meth c D A nL cells slots Q t lv st w) (kf : sg_G p l e R s m args below meth c D A nL cells slots Q n lv st w) : sg_G p l e R s m args below meth c D A nL cells slots Q pc lv (.ref b :: .ref a :: st) w := by
  subst hn
  exact fun H locs ls hP hD hS hh => lv_acmp_ne (rx := some a) (ry := some b) C.1 C.2.1 hdg ht (fun _ => kt H locs ls hP hD hS hh) (fun _ => kf H locs ls hP hD hS hh)
theorem g_ifnonnull (t : Nat) (C : sg_C p R s m args meth c cc nL own Ts D Y Z A) {a : Nat} {off : Int} (hdg : decode cc pc = .ok (.ifnonnull off, 3)) (ht : (pc : Int) + off = (t : Int)) (kk : sg_G p l e R s m args below meth c D A nL cells slots Q t lv st w) : sg_G p l e R s m args below meth c D A nL cells slots Q pc lv (.ref a :: st) w :=
  fun H locs ls hP hD hS hh => lv_ifnonnull C.1 C.2.1 hdg ht (kk H locs ls hP hD hS hh)
theorem g_null (n : Nat) (C : sg_C p R s m args meth c cc nL own Ts D Y Z A) (hdg : decode cc pc = .ok (.aconst_null, 1)) (hn : pc + 1 = n) (kk : sg_G p l e R s m args below meth c D A nL cells slots Q n lv (.null :: st) w) : sg_G p l e R s m args below meth c D A nL cells slots Q pc lv st w := by
  subst hn
  exact fun H locs ls hP hD hS hh => lv_null C.1 C.2.1 hdg (kk H locs ls hP hD hS hh)
theorem g_instS (n : Nat) (C : sg_C p R s m args meth c cc nL own Ts D Y Z A) {nm : String} {T : u_T} {N ci index a : Nat} {fs : List Value} (q0 : Nat) (hlk : Cond.classLink own index nm ∈ Ts) (hc : vwCl[ci]? = some (nm, T, N)) (he : w[q0]? = some (a, .inr (ci, fs))) (hdg : decode cc pc = .ok (.instanceof index, 3)) (hn : pc + 3 = n) (kk : sg_G p l e R s m args below meth c D A nL cells slots Q n lv (.int 1 :: st) w) : sg_G p l e R s m args below meth c D A nL cells slots Q pc lv (.ref a :: st) w := by
  subst hn
  exact fun H locs ls hP hD hS hh => va_instS C.1 C.2.1 C.2.2.2.1 (C.2.2.2.2.1 _ hlk) (C.2.2.2.2.2.1.1 ci _ hc).2 (va_recv C.2.2.2.2.2.1 hP hc he) hdg (kk H locs ls hP hD hS hh)
theorem g_castS (n : Nat) (C : sg_C p R s m args meth c cc nL own Ts D Y Z A) {nm : String} {T : u_T} {N ci index a : Nat} {fs : List Value} (q0 : Nat) (hlk : Cond.classLink own index nm ∈ Ts) (hc : vwCl[ci]? = some (nm, T, N)) (he : w[q0]? = some (a, .inr (ci, fs))) (hdg : decode cc pc = .ok (.checkcast index, 3)) (hn : pc + 3 = n) (kk : sg_G p l e R s m args below meth c D A nL cells slots Q n lv (.ref a :: st) w) : sg_G p l e R s m args below meth c D A nL cells slots Q pc lv (.ref a :: st) w := by
  subst hn
  exact fun H locs ls hP hD hS hh => va_castS C.1 C.2.1 C.2.2.2.1 (C.2.2.2.2.1 _ hlk) (C.2.2.2.2.2.1.1 ci _ hc).2 (va_recv C.2.2.2.2.2.1 hP hc he) hdg (kk H locs ls hP hD hS hh)
theorem g_castB (n : Nat) (C : sg_C p R s m args meth c cc nL own Ts D Y Z A) {index a : Nat} {z : vp_A} (q0 : Nat) (hlk : Cond.classLink own index "[B" ∈ Ts) (he : w[q0]? = some (a, .inl (Y 1, z))) (hdg : decode cc pc = .ok (.checkcast index, 3)) (hn : pc + 3 = n) (kk : sg_G p l e R s m args below meth c D A nL cells slots Q n lv (.ref a :: st) w) : sg_G p l e R s m args below meth c D A nL cells slots Q pc lv (.ref a :: st) w := by
  subst hn
  exact fun H locs ls hP hD hS hh => va_castA C.1 C.2.1 C.2.2.2.1 (C.2.2.2.2.1 _ hlk) hP q0 he (C.2.2.2.2.2.1.2 1 (Y 1, .byte) rfl).2 hdg (kk H locs ls hP hD hS hh)
/-- what clone asks of arrays of bytes -/
def sg_Zb (Z : (Nat → Prop) → State → Heap → Prop) : Prop := ∀ (A : Nat → Prop) (U : State) (H : Heap), Z A U H → va_Nw (.castable "[B" "java/lang/Cloneable") U
theorem g_cloneB (n : Nat) (C : sg_C p R s m args meth c cc nL own Ts D Y Z A) (hB : sg_Zb Z) {index a N : Nat} {f : Nat → Int32} (q0 : Nat) (h1 : Cond.methodLink own index ⟨"[B", "clone", "()Ljava/lang/Object;"⟩ ∈ Ts) (h2 : Cond.sameMethod "[B" "java/lang/Object" "clone" "()Ljava/lang/Object;" ∈ Ts) (h3 : Cond.native ⟨"java/lang/Object", "clone", "()Ljava/lang/Object;"⟩ ∈ Ts) (h4 : Cond.instanceMethod ⟨"java/lang/Object", "clone", "()Ljava/lang/Object;"⟩ ∈ Ts) (h5 : Cond.selects "[B" ⟨"[B", "clone", "()Ljava/lang/Object;"⟩ ⟨"java/lang/Object", "clone", "()Ljava/lang/Object;"⟩ ∈ Ts) (he : w[q0]? = some (a, .inl (Y 1, N, .inl f))) (hfit : ∀ i, i < N → fits .byte (.int (f i)) = true) (hfr : 1 ≤ R.frames) (hlo : (st.map fun v => v.category).sum + 14 ≤ R.locals) (hcells : cells + 1 ≤ R.cells) (hslots : slots + N ≤ R.slots) (hdg : decode cc pc = .ok (.invokevirtual index, 3)) (hn : pc + 3 = n) (kk : ∀ q : Nat, sg_G p l e R s m args below meth c D A nL (cells + 1) (slots + N) Q n lv (.ref q :: st) (w ++ [(q, .inl (Y 1, N, .inl f))])) : sg_G p l e R s m args below meth c D A nL cells slots Q pc lv (.ref a :: st) w := by
  subst hn
  intro H locs ls hP hD hS hh
  refine va_clone C.1 C.2.1 (C.2.2.1.trans hh.1.symm) C.2.2.2.1 (C.2.2.2.2.1 _ h1) (C.2.2.2.2.1 _ h2) (C.2.2.2.2.1 _ h3) (C.2.2.2.2.1 _ h4) (C.2.2.2.2.1 _ h5) (hB _ _ _ C.2.2.2.2.2.2.2.2.1) C.2.2.2.2.2.1 hP hD hS C.2.2.2.2.2.2.1 q0 1 he rfl (C.2.2.2.2.2.1.2 1 (Y 1, .byte) rfl).2 (fun i v hv => ?_) hfr hlo hcells hslots hdg (fun q H1 _ hP1 hD1 hS1 => kk q H1 locs ls hP1 hD1 hS1 hh)
  have hv2 : (arrV (Y 1) N (fun j => Value.int (f j))).slots[i]? = some v := hv
  have hi : i < N := by
    have h9 := (Array.getElem?_eq_some_iff.mp hv2).1
    rw [arrV_size] at h9
    exact h9
  rw [arrV_read _ _ hi] at hv2
  have e9 := Option.some.inj hv2
  rw [← e9]
  exact hfit i hi
theorem g_copyt (n : Nat) (C : sg_C p R s m args meth c cc nL own Ts D Y Z A) {index a b0 n0 n1 : Nat} {f g : Nat → Int32} {sp dp k : Int32} {w2 : va_W} (q1 : Nat) (hl : Cond.methodLink own index arraycopyName ∈ Ts) (h2 : Cond.native arraycopyName ∈ Ts) (h3 : Cond.static arraycopyName ∈ Ts) (h4 : Cond.initialized "java/lang/System" ∈ Ts) (hX : va_T .byte b0 n0 (fun j => .int (f j)) A s s.heap) (ha1 : w[q1]? = some (a, .inl (Y 1, n1, .inl g))) (hs1 : ¬ sp < 0) (hs2 : ¬ dp < 0) (hs3 : ¬ k < 0) (hs4 : sp.toNatClampNeg + k.toNatClampNeg ≤ n0) (hs5 : dp.toNatClampNeg + k.toNatClampNeg ≤ n1) (hfit : ∀ i, i < k.toNatClampNeg → fits .byte (.int (f (sp.toNatClampNeg + i))) = true) (hfr : 1 ≤ R.frames) (hlo : (st.map fun v => v.category).sum + (nativeFrameWords "java/lang/System" "arraycopy" 5 + 11) ≤ R.locals) (hdg : decode cc pc = .ok (.invokestatic index, 3)) (hn : pc + 3 = n) (hw : w.set q1 (a, .inl (Y 1, n1, .inl (va_cpy f g sp.toNatClampNeg dp.toNatClampNeg k.toNatClampNeg))) = w2) (kk : sg_G p l e R s m args below meth c D A nL cells slots Q n lv st w2) : sg_G p l e R s m args below meth c D A nL cells slots Q pc lv (.int k :: .int dp :: .ref a :: .int sp :: .ref b0 :: st) w := by
  subst hn
  subst hw
  exact fun H locs ls hP hD hS hh => vk_copyt C.1 C.2.1 (C.2.2.1.trans hh.1.symm) C.2.2.2.1 (C.2.2.2.2.1 _ hl) (C.2.2.2.2.1 _ h2) (C.2.2.2.2.1 _ h3) (C.2.2.2.2.1 _ h4) C.2.2.2.2.2.1 hP hD hS hX q1 1 ha1 rfl hs1 hs2 hs3 hs4 hs5 hfit hfr hlo hdg (fun H1 locs1 hP1 hD1 hS1 => kk H1 locs1 ls hP1 hD1 hS1 hh)
/-- a call of an overridden method -/
theorem g_callOi (n : Nat) (C : sg_C p R s m args meth c cc nL own Ts D Y Z A) {y : MethodName} {bytes b0 : ByteArray} {maxL n0 index m0 : Nat} {ret r0 : Option FieldType} {ws ws' : List Cond} {fr lo : Nat} {As : List Value} {wc w1 w2 : va_W} {C2 : String} {b : Nat} {q0 ci : Nat} {T : u_T} {N : Nat} {fs : List Value} {owner : String} {xm : MethodName} {r : Int32} (hM : sg_MI l y ws fr lo D Y Z (.ref b :: As) wc r w1) (hG : GoodIn Ts (va_wsO own index C2 owner xm y ws)) (hx0 : Cond.code ⟨owner, xm.name, xm.desc⟩ b0 m0 r0 ∈ Ts) (hd : owner ≠ "java/lang/invoke/MethodHandle" ∧ owner ≠ "java/lang/invoke/VarHandle" ∧ (parseMethodDescriptor xm.desc).map (fun d => d.parameters.length) = some n0) (hw0 : ws = Cond.code y bytes maxL ret :: ws') (hR : fr + 1 ≤ R.frames ∧ 8 + (maxL + 11) + lo ≤ R.locals) (hrc : vwCl[ci]? = some (C2, T, N)) (hre : w[q0]? = some (b, .inr (ci, fs))) (hcut : sg_cutP w wc w1 w2) (hlen : As.length = n0) (hroom : (st.map fun v => v.category).sum ≤ 8) (hcs : cells ≤ R.cells ∧ slots ≤ R.slots) (hdg : decode cc pc = .ok (.invokevirtual index, 3)) (hn : pc + 3 = n) {stk : List Value} (hstk : stk = As.reverse ++ .ref b :: st) (kk : sg_G p l e R s m args below meth c D A nL cells slots Q n lv (.int r :: st) w2) : sg_G p l e R s m args below meth c D A nL cells slots Q pc lv stk w := by
  subst hn
  subst hstk
  intro H locs ls hP hD hS hh
  obtain ⟨wr, hp1, hp2⟩ := hcut
  have hPp := sg_permP hp1 hP
  have hDp := sg_permD hp1 hD
  have hF : ∀ q, va_A wc H.size q → A q := sg_cutP_free hDp (fun q h => C.2.2.2.2.2.2.1 q (Nat.le_trans hS.1 h))
  refine va_calli (va_runU (C := C2) (b := b) (As := As) (rest := st) ⟨C.1, C.2.1, C.2.2.1, C.2.2.2.1, C.2.2.2.2.1⟩ (hM H.size) (va_cwO n0 C.2.2.2.2.1 hG hw0 rfl rfl hx0 hd hR) ⟨sg_blind C.2.2.2.2.2.2.2.1, va_recv C.2.2.2.2.2.1 hP hrc hre, sg_preP_of C hPp hDp hS⟩ rfl hlen hh.1 rfl (lv_room hroom) hdg hcs) hS (fun q _ h => hF q h) hF (fun r1 u t H1 locs1 ht hvm hw hB hz1 hk1 hS1 => ?_)
  have hw : r1 = r := hw
  subst hw
  obtain ⟨b1, b2⟩ := sg_backP C hp2 hPp hDp hS ht hB hk1
  exact kk H1 locs1 ls b1 b2 hS1 hh
theorem g_callKv (n : Nat) (C : sg_C p R s m args meth c cc nL own Ts D Y Z A) {y : MethodName} {bytes : ByteArray} {maxL n0 index : Nat} {ret : Option FieldType} {ws ws' : List Cond} {fr lo : Nat} {As : List Value} {wc w1 w2 : va_W} {C2 : String} {b : Nat} (hM : sg_MV l y ws fr lo D Y Z (.ref b :: As) wc w1) (hG : GoodIn Ts (wsV own index C2 y ws)) (hd : y.cls = C2 ∧ y.cls ≠ "java/lang/invoke/MethodHandle" ∧ y.cls ≠ "java/lang/invoke/VarHandle" ∧ (parseMethodDescriptor y.desc).map (fun d => d.parameters.length) = some n0) (hw0 : ws = Cond.code y bytes maxL ret :: ws') (hR : fr + 1 ≤ R.frames ∧ 8 + (maxL + 11) + lo ≤ R.locals) (hrecv : ∀ (H : Heap) (locs : List Loc), va_S A s.heap H locs → ∃ cell : Cell, H[b]? = some cell ∧ cell.vm.isStatics = false ∧ s.vm.findClass C2 = some cell.cls) (hcut : sg_cutP w wc w1 w2) (hlen : As.length = n0) (hroom : (st.map fun v => v.category).sum ≤ 8) (hcs : cells ≤ R.cells ∧ slots ≤ R.slots) (hdg : decode cc pc = .ok (.invokevirtual index, 3)) (hn : pc + 3 = n) {stk : List Value} (hstk : stk = As.reverse ++ .ref b :: st) (kk : sg_G p l e R s m args below meth c D A nL cells slots Q n lv st w2) : sg_G p l e R s m args below meth c D A nL cells slots Q pc lv stk w := by
  subst hn
  subst hstk
  intro H locs ls hP hD hS hh
  obtain ⟨wr, hp1, hp2⟩ := hcut
  have hPp := sg_permP hp1 hP
  have hDp := sg_permD hp1 hD
  have hF : ∀ q, va_A wc H.size q → A q := sg_cutP_free hDp (fun q h => C.2.2.2.2.2.2.1 q (Nat.le_trans hS.1 h))
  refine va_callv (va_runV (C := C2) (b := b) (As := As) (rest := st) ⟨C.1, C.2.1, C.2.2.1, C.2.2.2.1, C.2.2.2.2.1⟩ (hM H.size) (cwV n0 C.2.2.2.2.1 hG hw0 rfl rfl hd hR) ⟨sg_blind C.2.2.2.2.2.2.2.1, hrecv H locs hS, sg_preP_of C hPp hDp hS⟩ rfl hlen hh.1 rfl (lv_room hroom) hdg hcs) hS (fun q _ h => hF q h) hF (fun u t H1 locs1 ht hvm hw hB hz1 hk1 hS1 => ?_)
  obtain ⟨b1, b2⟩ := sg_backP C hp2 hPp hDp hS ht hB hk1
  exact kk H1 locs1 ls b1 b2 hS1 hh
end SGS
/-- a String at a, its letters at v -/
def ww_S (Y : Nat → ClassId) (a v : Nat) (h z : Int32) (n : Nat) (f : Nat → Int32) : va_W := [(a, .inr (0, [.ref v, .int 0, .int h, .int z])), (v, .inl (Y 1, n, .inl f))]
theorem sb_sh0 (x : Int32) : x >>> ((0 : Int32) &&& 31) = x := by
  rw [show ((0 : Int32) &&& 31) = 0 by decide]
  simp
theorem sb_sl0 (x : Int32) : x <<< ((0 : Int32) &&& 31) = x := by
  rw [show ((0 : Int32) &&& 31) = 0 by decide]
  simp
