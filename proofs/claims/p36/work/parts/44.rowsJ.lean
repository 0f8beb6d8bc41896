/-! CALLS that may make cells, inherited and super calls, texts, the JDK's statics -/
def sg_ua (ad : Nat → Nat) (p q : Nat) : Nat → Nat := fun k => cond (Nat.beq k p) q (ad k)
theorem sg_cutAll {w w1 : va_W} : sg_cutP w w w1 w1 := ⟨[], by rw [List.append_nil], by rw [List.nil_append]⟩
theorem sg_cutNone {w : va_W} : sg_cutP w [] [] w := ⟨w, by rw [List.nil_append], by rw [List.append_nil]⟩
theorem sg_cutMid {w wc w1 w2 : va_W} (i n : Nat) (h : w = w.take i ++ (wc ++ w.drop (i + n))) (h2 : w2 = w.take i ++ (w1 ++ w.drop (i + n))) : sg_cutP w wc w1 w2 := by
  refine ⟨w.take i ++ w.drop (i + n), ?_, ?_⟩
  · refine (List.Perm.of_eq h).trans ?_
    exact List.perm_append_comm_assoc _ _ _
  · rw [h2]
    rw [List.append_assoc]
    exact List.Perm.append_left _ List.perm_append_comm
theorem sg_suc {z : Int32} {n : Nat} (h : sg_in z n = true) (hn : n < 2 ^ 31 := by decide) : (z + 1).toNatClampNeg = z.toNatClampNeg + 1 := by
  obtain ⟨j, hj, rfl⟩ := vp_in_of (sg_inE h) hn
  rw [nI_1, nI_clamp (by omega), nI_clamp (by omega)]
theorem sg_cutMidX {S : Type} {w wc : va_W} {w1 w2 : S → va_W} (i n : Nat) (h : w = w.take i ++ (wc ++ w.drop (i + n))) (h2 : ∀ u : S, w2 u = w.take i ++ (w1 u ++ w.drop (i + n))) : ∃ wr : va_W, w.Perm (wc ++ wr) ∧ ∀ u : S, (wr ++ w1 u).Perm (w2 u) := by
  refine ⟨w.take i ++ w.drop (i + n), ?_, fun u => ?_⟩
  · refine (List.Perm.of_eq h).trans ?_
    exact List.perm_append_comm_assoc _ _ _
  · rw [h2 u]
    rw [List.append_assoc]
    exact List.Perm.append_left _ List.perm_append_comm
theorem sg_ofcl {x : Int32} (h : decide (0 ≤ x) = true) : Int32.ofNat x.toNatClampNeg = x := by
  have h1 : 0 ≤ x := of_decide_eq_true h
  obtain ⟨j, hj, rfl⟩ := nI_of (Int32.not_lt.mpr h1)
  rw [nI_clamp hj]
  rfl
/-- the texts of the forms -/
def sg_len : List Nat := [10, 7, 12, 7, 8, 8, 5, 5, 0, 1, 1, 1, 1, 1, 1]
def sg_byt : List (List Int32) := [[116, 114, 101, 97, 116, 121, 32, 49, 32, 49], [101, 110, 100, 32, 49, 32, 49], [99, 114, 101, 100, 105, 116, 32, 49, 32, 50, 32, 49], [114, 101, 112, 97, 121, 32, 49], [114, 97, 105, 110, 32, 49, 32, 50], [98, 97, 105, 108, 32, 49, 32, 49], [98, 117, 121, 32, 49], [109, 111, 110, 116, 104], [], [32], [58], [115], [114], [117], [97]]
def sg_txt : Nat → String := fun k => match k with
  | 0 => "treaty 1 1"
  | 1 => "end 1 1"
  | 2 => "credit 1 2 1"
  | 3 => "repay 1"
  | 4 => "rain 1 2"
  | 5 => "bail 1 1"
  | 6 => "buy 1"
  | 7 => "month"
  | 8 => ""
  | 9 => " "
  | 10 => ":"
  | 11 => "s"
  | 12 => "r"
  | 13 => "u"
  | _ => "a"
def sg_ten (j : Nat) : Int32 := nI (48 + j / 10)
def sg_one (j : Nat) : Int32 := nI (48 + j % 10)
/-- what the JDK's methods ask: statics, tables, the texts; jK, jV: where the texts and their bytes lie; jT: the two tables of digits -/
def sg_Zj (jK jV jT : Nat → Nat) (A : Nat → Prop) (U : State) (H : Heap) : Prop := va_Z "java/lang/String" "COMPACT_STRINGS" "Z" (.int 1) A U H ∧ va_Zq "jdk/internal/util/Preconditions" "SIOOBE_FORMATTER" "Ljava/util/function/BiFunction;" A U H ∧ vk_S 15 sg_len sg_byt jK jV A U H ∧ (∀ k : Nat, k < 8 → vk_R RX5 (34 + 2 * k) (sg_txt k) (jK k) U) ∧ (va_Z "java/lang/Integer" "DigitTens" "[B" (.ref (jT 0)) A U H ∧ va_T .byte (jT 0) 100 (fun j => .int (sg_ten j)) A U H) ∧ (va_Z "java/lang/Integer" "DigitOnes" "[B" (.ref (jT 1)) A U H ∧ va_T .byte (jT 1) 100 (fun j => .int (sg_one j)) A U H)
def sg_ZJ (Z : (Nat → Prop) → State → Heap → Prop) (jK jV jT : Nat → Nat) : Prop := ∀ (A : Nat → Prop) (U : State) (H : Heap), Z A U H → sg_Zj jK jV jT A U H
/-- contracts: an int, nothing, or a cell; with the room for new cells; the world behind by a witness -/
def sg_XI {S : Type} (l : Launch) (y : MethodName) (ws : List Cond) (fr lo mc ms : Nat) (D : va_G) (Y : Nat → ClassId) (Z : (Nat → Prop) → State → Heap → Prop) (av : List Value) (w : va_W) (P : Int32 → S → Prop) (w' : S → va_W) : Prop := ∀ sz : Nat, Met l y ws ({ frames := fr, cells := mc, slots := ms, locals := lo }) (va_Pc av (sg_pre D Y Z w sz)) (va_Qi P (fun u => sg_post D Y w (w' u) sz) (va_A w sz)) mc ms (va_A w sz)
def sg_XV {S : Type} (l : Launch) (y : MethodName) (ws : List Cond) (fr lo mc ms : Nat) (D : va_G) (Y : Nat → ClassId) (Z : (Nat → Prop) → State → Heap → Prop) (av : List Value) (w : va_W) (P : S → Prop) (w' : S → va_W) : Prop := ∀ sz : Nat, Met l y ws ({ frames := fr, cells := mc, slots := ms, locals := lo }) (va_Pc av (sg_pre D Y Z w sz)) (va_Qv P (fun u => sg_post D Y w (w' u) sz) (va_A w sz)) mc ms (va_A w sz)
def sg_XR {S : Type} (l : Launch) (y : MethodName) (ws : List Cond) (fr lo mc ms : Nat) (D : va_G) (Y : Nat → ClassId) (Z : (Nat → Prop) → State → Heap → Prop) (av : List Value) (w : va_W) (P : S → Prop) (ra : S → Nat) (w' : S → va_W) : Prop := ∀ sz : Nat, Met l y ws ({ frames := fr, cells := mc, slots := ms, locals := lo }) (va_Pc av (sg_pre D Y Z w sz)) (va_Qr P (fun u a t => a = ra u ∧ sg_post D Y w (w' u) sz t) (va_A w sz)) mc ms (va_A w sz)
def sg_ch (i : Int32) : Bool := decide (0 ≤ i.toInt) && decide (i.toInt < 65536)
def sg_by (i : Int32) : Bool := fits .byte (.int i) && decide (narrow .byte (.int i) = .int i)
theorem sg_chn {i : Int32} (h : sg_ch i = true) : narrow .char (.int i) = .int i := by
  unfold sg_ch at h
  simp only [Bool.and_eq_true, decide_eq_true_eq] at h
  obtain ⟨j, hj, rfl⟩ := nI_of (x := i) (by rw [Int32.lt_iff_toInt_lt]; exact Int.not_lt.mpr h.1)
  rw [nI_toInt hj] at h
  exact (pk_charN (by omega)).1
theorem sg_byn {i : Int32} (h : sg_by i = true) : narrow .byte (.int i) = .int i := by
  unfold sg_by at h
  simp only [Bool.and_eq_true, decide_eq_true_eq] at h
  exact h.2
def sg_fit (f : Nat → Int32) (n : Nat) : Bool := (List.range n).all (fun i => fits .byte (.int (f i)))
theorem sg_fitE {f : Nat → Int32} {n : Nat} (h : sg_fit f n = true) : ∀ i : Nat, i < n → fits .byte (.int (f i)) = true := fun i hi => List.all_eq_true.mp h i (List.mem_range.mpr hi)
theorem sg_clle {x y : Int32} (h0 : 0 ≤ x) (h : x < y) : x.toNatClampNeg ≤ y.toNatClampNeg ∧ 0 ≤ y := by
  rw [Int32.le_iff_toInt_le] at h0 ⊢
  rw [Int32.lt_iff_toInt_lt] at h
  have e0 : (0 : Int32).toInt = 0 := rfl
  rw [e0] at h0 ⊢
  refine ⟨?_, by omega⟩
  show x.toInt.toNat ≤ y.toInt.toNat
  omega
section SGJ
variable {p : Program} {l : Launch} {e : Env} {R : Room} {s : State} {m : MethodId} {args : Array Value} {below : List Frame} {meth : Method} {c : Code} {D : va_G} {Y : Nat → ClassId} {Z : (Nat → Prop) → State → Heap → Prop} {A : Nat → Prop} {nL : Nat} {cells slots : Nat} {Q : State → Prop} {cc : ByteArray} {own : String} {Ts : List Cond} {pc : Nat} {lv : List (Nat × Value)} {st : List Value} {w : va_W} {x y : Int32}
theorem sg_enterX {y : MethodName} {ws ws' : List Cond} {fr lo mc ms maxL : Nat} {cc : ByteArray} {own : String} {ret : Option FieldType} {av : List Value} {w : va_W} {sz : Nat} {Qc : Array Value → State → Outcome → State → Prop}
    (hy : plainFor y = true) (hw : ws = Cond.code y cc maxL ret :: ws') (hcls : y.cls = own) (hle : (lg_sl av).length ≤ maxL) (hZ : sg_Zok Z)
    (body : ∀ (p : Program) (e : Env) (s : State) (m : MethodId) (args : Array Value) (below : List Frame) (meth : Method) (c : Code), sg_C p ({ frames := fr, cells := mc, slots := ms, locals := lo } : Room) s m args meth c cc maxL own ws D Y Z (va_A w s.heap.size) → meth.sig.returnType = ret → meth.name = y.name → (∀ Q : State → Prop, Q = MQ below (Qc) args s mc ms (va_A w s.heap.size) → s.heap.size = sz → sg_G p l e ({ frames := fr, cells := mc, slots := ms, locals := lo } : Room) s m args below meth c D (va_A w s.heap.size) maxL 0 0 Q 0 (lv_args 0 av) [] w)) :
    Met l y ws ({ frames := fr, cells := mc, slots := ms, locals := lo } : Room) (va_Pc av (sg_pre D Y Z w sz)) Qc mc ms (va_A w sz) := by
  refine va_MetF (cc := cc) (maxL := maxL) (ret := ret) hy hw ?_
  intro p e s m args below meth c s₁ B hml hv
  obtain ⟨rfl, hsz, hP, hK, hD0, hZ0⟩ := hv
  subst hsz
  have hts := atoms_spec (ws := ws) B.pre
  have hown : s.vm.findClass own = some m.cls := by rw [← hcls]; exact findClass_of_methodNamed B.named
  have hD := hD0.self (sz := s.heap.size)
  have C : sg_C p ({ frames := fr, cells := mc, slots := ms, locals := lo } : Room) s m av.toArray meth c cc maxL own ws D Y Z (va_A w s.heap.size) := ⟨B.exec, B.bytes, hml, hown, hts, hK, fun q h => Or.inr h, hZ, hZ0, B.notSynchronized⟩
  have hl := lv_entry av (n := maxL) hle
  rw [lg_entry_eq]
  exact body p e s m _ below meth c C B.returns (name_of_methodNamed B.named B.method).1 _ rfl rfl _ _ _ hP hD va_S.rf hl
theorem g_widen (k n2 : Nat) (h1 : cells ≤ k) (h2 : slots ≤ n2) (kk : sg_G p l e R s m args below meth c D A nL k n2 Q pc lv st w) : sg_G p l e R s m args below meth c D A nL cells slots Q pc lv st w := fun H locs ls hP hD hS hh => W.widen h1 h2 (kk H locs ls hP hD hS hh)
theorem g_iretX {S : Type} {w0 : va_W} {P : Int32 → S → Prop} {w' : S → va_W} {v : Int32} {sz : Nat} {ty : FieldType} (u : S) (C : sg_C p R s m args meth c cc nL own Ts D Y Z (va_A w0 s.heap.size)) (hr : meth.sig.returnType = some ty) (hnar : narrow ty (.int v) = .int v) (hQ : Q = MQ below (va_Qi P (fun u => sg_post D Y w0 (w' u) sz) (va_A w0 sz)) args s cells slots (va_A w0 s.heap.size)) (hsz : s.heap.size = sz) (hdg : decode cc pc = .ok (.ireturn, 1)) (hv : P v u) (hw : w = w' u) : sg_G p l e R s m args below meth c D (va_A w0 s.heap.size) nL cells slots Q pc lv [.int v] w := by
  subst hQ
  subst hw
  subst hsz
  intro H locs ls hP hD hS hl
  exact W.zret (v := v) C.1 C.2.1 hr hnar (fun t ht hW => ⟨⟨v, u, rfl, hv, by rw [ht]; exact hP, va_K.moved hW.alike C.2.2.2.2.2.1, hD⟩, hS.F ht⟩) hS.2.2 hdg C.2.2.2.2.2.2.2.2.2
theorem g_vretX {S : Type} {w0 : va_W} {P : S → Prop} {w' : S → va_W} {sz : Nat} (u : S) (C : sg_C p R s m args meth c cc nL own Ts D Y Z (va_A w0 s.heap.size)) (hr : meth.sig.returnType = none) (hQ : Q = MQ below (va_Qv P (fun u => sg_post D Y w0 (w' u) sz) (va_A w0 sz)) args s cells slots (va_A w0 s.heap.size)) (hsz : s.heap.size = sz) (hdg : decode cc pc = .ok (.return_, 1)) (hv : P u) (hw : w = w' u) : sg_G p l e R s m args below meth c D (va_A w0 s.heap.size) nL cells slots Q pc lv [] w := by
  subst hQ
  subst hw
  subst hsz
  intro H locs ls hP hD hS hl
  exact W.vret C.1 C.2.1 hr (fun t ht hW => ⟨⟨u, rfl, hv, by rw [ht]; exact hP, va_K.moved hW.alike C.2.2.2.2.2.1, hD⟩, hS.F ht⟩) hS.2.2 hdg C.2.2.2.2.2.2.2.2.2
theorem g_aretX {S : Type} {w0 : va_W} {P : S → Prop} {ra : S → Nat} {w' : S → va_W} {v : Nat} {sz : Nat} {ty : FieldType} (u : S) (C : sg_C p R s m args meth c cc nL own Ts D Y Z (va_A w0 s.heap.size)) (hr : meth.sig.returnType = some ty) (hnar : (∃ n, ty = .object n) ∨ ∃ t, ty = .array t) (hQ : Q = MQ below (va_Qr P (fun u a t => a = ra u ∧ sg_post D Y w0 (w' u) sz t) (va_A w0 sz)) args s cells slots (va_A w0 s.heap.size)) (hsz : s.heap.size = sz) (hdg : decode cc pc = .ok (.areturn, 1)) (hv : P u) (hra : v = ra u) (hw : w = w' u) : sg_G p l e R s m args below meth c D (va_A w0 s.heap.size) nL cells slots Q pc lv [.ref v] w := by
  subst hQ
  subst hw
  subst hsz
  intro H locs ls hP hD hS hl
  exact W.aret (v := .ref v) C.1 C.2.1 hr hnar (Or.inr ⟨v, rfl⟩) (fun t ht hW => ⟨⟨u, v, rfl, hv, hra, by rw [ht]; exact hP, va_K.moved hW.alike C.2.2.2.2.2.1, hD⟩, hS.F ht⟩) hS.2.2 hdg C.2.2.2.2.2.2.2.2.2
theorem g_sub {w2 : va_W} (is : List Nat) (h : is.map (fun i => w[i]?) = w2.map some) (hn : va_nd is = true) (kk : sg_G p l e R s m args below meth c D A nL cells slots Q pc lv st w2) : sg_G p l e R s m args below meth c D A nL cells slots Q pc lv st w := fun H locs ls hP hD hS hh => kk H locs ls (hP.sub is (sg_pick h)) (hD.sub is hn h) hS hh
theorem g_newaB (n : Nat) (C : sg_C p R s m args meth c cc nL own Ts D Y Z A) {k : Int32} {N' : Nat} (harr : Cond.arrayClass .byte ∈ Ts) (hn0 : ¬ k < 0) (hN : k.toNatClampNeg = N') (hb : N' * componentBytes .byte ≤ 536870912) (hcells : cells + 1 ≤ R.cells) (hslots : slots + N' ≤ R.slots) (hdg : decode cc pc = .ok (.newarray .byte, 2)) (hn : pc + 2 = n) (kk : ∀ q : Nat, sg_G p l e R s m args below meth c D A nL (cells + 1) (slots + N') Q n lv (.ref q :: st) (w ++ [(q, .inl (Y 1, N', .inl (fun _ => 0)))])) : sg_G p l e R s m args below meth c D A nL cells slots Q pc lv (.int k :: st) w := by
  subst hn
  intro H locs ls hP hD hS hh
  refine va_newa (atype := .byte) (ty := .byte) (a0 := (N', .inl (fun _ => 0))) C.1 C.2.1 (C.2.2.2.2.1 _ harr) rfl C.2.2.2.2.2.1 hP hD hS C.2.2.2.2.2.2.1 (fun _ => rfl) hn0 hN hb hcells hslots hdg (fun q cA H1 hK1 hP1 hD1 hS1 => ?_)
  have e1 : s.vm.findClass ("[" ++ FieldType.byte.toString) = some cA := (hK1.2 4 (cA, .byte) rfl).2
  have e2 : s.vm.findClass ("[" ++ FieldType.byte.toString) = some (Y 1) := (C.2.2.2.2.2.1.2 1 (Y 1, .byte) rfl).2
  have e3 : cA = Y 1 := Option.some.inj (e1.symm.trans e2)
  subst e3
  exact kk q H1 locs ls hP1 hD1 hS1 hh
theorem g_copyb (n : Nat) (C : sg_C p R s m args meth c cc nL own Ts D Y Z A) {index a a0 n0 n1 : Nat} {f g : Nat → Int32} {sp dp k : Int32} {w2 : va_W} (q0 q1 : Nat) (hl : Cond.methodLink own index arraycopyName ∈ Ts) (h2 : Cond.native arraycopyName ∈ Ts) (h3 : Cond.static arraycopyName ∈ Ts) (h4 : Cond.initialized "java/lang/System" ∈ Ts) (ha0 : w[q0]? = some (a0, .inl (Y 1, n0, .inl f))) (ha1 : w[q1]? = some (a, .inl (Y 1, n1, .inl g))) (hs1 : ¬ sp < 0) (hs2 : ¬ dp < 0) (hs3 : ¬ k < 0) (hs4 : sp.toNatClampNeg + k.toNatClampNeg ≤ n0) (hs5 : dp.toNatClampNeg + k.toNatClampNeg ≤ n1) (hfit : ∀ i, i < k.toNatClampNeg → fits .byte (.int (f (sp.toNatClampNeg + i))) = true) (hfr : 1 ≤ R.frames) (hlo : (st.map fun v => v.category).sum + (nativeFrameWords "java/lang/System" "arraycopy" 5 + 11) ≤ R.locals) (hdg : decode cc pc = .ok (.invokestatic index, 3)) (hn : pc + 3 = n) (hw : w.set q1 (a, .inl (Y 1, n1, .inl (va_cpy f g sp.toNatClampNeg dp.toNatClampNeg k.toNatClampNeg))) = w2) (kk : sg_G p l e R s m args below meth c D A nL cells slots Q n lv st w2) : sg_G p l e R s m args below meth c D A nL cells slots Q pc lv (.int k :: .int dp :: .ref a :: .int sp :: .ref a0 :: st) w := by
  subst hn
  subst hw
  exact fun H locs ls hP hD hS hh => va_copyi C.1 C.2.1 (C.2.2.1.trans hh.1.symm) C.2.2.2.1 (C.2.2.2.2.1 _ hl) (C.2.2.2.2.1 _ h2) (C.2.2.2.2.1 _ h3) (C.2.2.2.2.1 _ h4) C.2.2.2.2.2.1 hP hD hS q0 q1 1 1 ha0 ha1 rfl rfl rfl hs1 hs2 hs3 hs4 hs5 hfit hfr hlo hdg (fun H1 locs1 hP1 hD1 hS1 => kk H1 locs1 ls hP1 hD1 hS1 hh)
theorem g_XVi (n : Nat) (C : sg_C p R s m args meth c cc nL own Ts D Y Z A) {y : MethodName} {bytes : ByteArray} {maxL n0 index mc ms : Nat} {ret : Option FieldType} {ws ws' : List Cond} {fr lo : Nat} {As : List Value} {S : Type} {wc : va_W} {w1 w2 : S → va_W} {C2 : String} {b : Nat} {q0 ci : Nat} {T : u_T} {N : Nat} {fs : List Value} {P : Int32 → S → Prop} (hM : sg_XI l y ws fr lo mc ms D Y Z (.ref b :: As) wc P w1) (hG : GoodIn Ts (wsV own index C2 y ws)) (hd : y.cls = C2 ∧ y.cls ≠ "java/lang/invoke/MethodHandle" ∧ y.cls ≠ "java/lang/invoke/VarHandle" ∧ (parseMethodDescriptor y.desc).map (fun d => d.parameters.length) = some n0) (hw0 : ws = Cond.code y bytes maxL ret :: ws') (hR : fr + 1 ≤ R.frames ∧ 8 + (maxL + 11) + lo ≤ R.locals) (hrc : vwCl[ci]? = some (C2, T, N)) (hre : w[q0]? = some (b, .inr (ci, fs))) (hcut : ∃ wr : va_W, w.Perm (wc ++ wr) ∧ ∀ u : S, (wr ++ w1 u).Perm (w2 u)) (hlen : As.length = n0) (hroom : (st.map fun v => v.category).sum ≤ 8) (hcs : cells + mc ≤ R.cells ∧ slots + ms ≤ R.slots) (hdg : decode cc pc = .ok (.invokevirtual index, 3)) (hn : pc + 3 = n) {stk : List Value} (hstk : stk = As.reverse ++ .ref b :: st) (kk : ∀ (r : Int32) (u : S), P r u → sg_G p l e R s m args below meth c D A nL (cells + mc) (slots + ms) Q n lv (.int r :: st) (w2 u)) : sg_G p l e R s m args below meth c D A nL cells slots Q pc lv stk w := by
  subst hn
  subst hstk
  intro H locs ls hP hD hS hh
  obtain ⟨wr, hp1, hp2⟩ := hcut
  have hPp := sg_permP hp1 hP
  have hDp := sg_permD hp1 hD
  have hF : ∀ q, va_A wc H.size q → A q := sg_cutP_free hDp (fun q h => C.2.2.2.2.2.2.1 q (Nat.le_trans hS.1 h))
  refine va_calli (va_runV (C := C2) (b := b) (As := As) (rest := st) ⟨C.1, C.2.1, C.2.2.1, C.2.2.2.1, C.2.2.2.2.1⟩ (hM H.size) (cwV n0 C.2.2.2.2.1 hG hw0 rfl rfl hd hR) ⟨sg_blind C.2.2.2.2.2.2.2.1, va_recv C.2.2.2.2.2.1 hP hrc hre, sg_preP_of C hPp hDp hS⟩ rfl hlen hh.1 rfl (lv_room hroom) hdg hcs) hS (fun q _ h => hF q h) hF (fun r1 u t H1 locs1 ht hvm hw hB hz1 hk1 hS1 => ?_)
  obtain ⟨b1, b2⟩ := sg_backP C (hp2 u) hPp hDp hS ht hB hk1
  exact kk r1 u hw H1 locs1 ls b1 b2 hS1 hh
theorem g_XVv (n : Nat) (C : sg_C p R s m args meth c cc nL own Ts D Y Z A) {y : MethodName} {bytes : ByteArray} {maxL n0 index mc ms : Nat} {ret : Option FieldType} {ws ws' : List Cond} {fr lo : Nat} {As : List Value} {S : Type} {wc : va_W} {w1 w2 : S → va_W} {C2 : String} {b : Nat} {q0 ci : Nat} {T : u_T} {N : Nat} {fs : List Value} {P : S → Prop} (hM : sg_XV l y ws fr lo mc ms D Y Z (.ref b :: As) wc P w1) (hG : GoodIn Ts (wsV own index C2 y ws)) (hd : y.cls = C2 ∧ y.cls ≠ "java/lang/invoke/MethodHandle" ∧ y.cls ≠ "java/lang/invoke/VarHandle" ∧ (parseMethodDescriptor y.desc).map (fun d => d.parameters.length) = some n0) (hw0 : ws = Cond.code y bytes maxL ret :: ws') (hR : fr + 1 ≤ R.frames ∧ 8 + (maxL + 11) + lo ≤ R.locals) (hrc : vwCl[ci]? = some (C2, T, N)) (hre : w[q0]? = some (b, .inr (ci, fs))) (hcut : ∃ wr : va_W, w.Perm (wc ++ wr) ∧ ∀ u : S, (wr ++ w1 u).Perm (w2 u)) (hlen : As.length = n0) (hroom : (st.map fun v => v.category).sum ≤ 8) (hcs : cells + mc ≤ R.cells ∧ slots + ms ≤ R.slots) (hdg : decode cc pc = .ok (.invokevirtual index, 3)) (hn : pc + 3 = n) {stk : List Value} (hstk : stk = As.reverse ++ .ref b :: st) (kk : ∀ u : S, P u → sg_G p l e R s m args below meth c D A nL (cells + mc) (slots + ms) Q n lv st (w2 u)) : sg_G p l e R s m args below meth c D A nL cells slots Q pc lv stk w := by
  subst hn
  subst hstk
  intro H locs ls hP hD hS hh
  obtain ⟨wr, hp1, hp2⟩ := hcut
  have hPp := sg_permP hp1 hP
  have hDp := sg_permD hp1 hD
  have hF : ∀ q, va_A wc H.size q → A q := sg_cutP_free hDp (fun q h => C.2.2.2.2.2.2.1 q (Nat.le_trans hS.1 h))
  refine va_callv (va_runV (C := C2) (b := b) (As := As) (rest := st) ⟨C.1, C.2.1, C.2.2.1, C.2.2.2.1, C.2.2.2.2.1⟩ (hM H.size) (cwV n0 C.2.2.2.2.1 hG hw0 rfl rfl hd hR) ⟨sg_blind C.2.2.2.2.2.2.2.1, va_recv C.2.2.2.2.2.1 hP hrc hre, sg_preP_of C hPp hDp hS⟩ rfl hlen hh.1 rfl (lv_room hroom) hdg hcs) hS (fun q _ h => hF q h) hF (fun u t H1 locs1 ht hvm hw hB hz1 hk1 hS1 => ?_)
  obtain ⟨b1, b2⟩ := sg_backP C (hp2 u) hPp hDp hS ht hB hk1
  exact kk u hw H1 locs1 ls b1 b2 hS1 hh
theorem g_XVr (n : Nat) (C : sg_C p R s m args meth c cc nL own Ts D Y Z A) {y : MethodName} {bytes : ByteArray} {maxL n0 index mc ms : Nat} {ret : Option FieldType} {ws ws' : List Cond} {fr lo : Nat} {As : List Value} {S : Type} {wc : va_W} {w1 w2 : S → va_W} {C2 : String} {b : Nat} {q0 ci : Nat} {T : u_T} {N : Nat} {fs : List Value} {P : S → Prop} {ra : S → Nat} (hM : sg_XR l y ws fr lo mc ms D Y Z (.ref b :: As) wc P ra w1) (hG : GoodIn Ts (wsV own index C2 y ws)) (hd : y.cls = C2 ∧ y.cls ≠ "java/lang/invoke/MethodHandle" ∧ y.cls ≠ "java/lang/invoke/VarHandle" ∧ (parseMethodDescriptor y.desc).map (fun d => d.parameters.length) = some n0) (hw0 : ws = Cond.code y bytes maxL ret :: ws') (hR : fr + 1 ≤ R.frames ∧ 8 + (maxL + 11) + lo ≤ R.locals) (hrc : vwCl[ci]? = some (C2, T, N)) (hre : w[q0]? = some (b, .inr (ci, fs))) (hcut : ∃ wr : va_W, w.Perm (wc ++ wr) ∧ ∀ u : S, (wr ++ w1 u).Perm (w2 u)) (hlen : As.length = n0) (hroom : (st.map fun v => v.category).sum ≤ 8) (hcs : cells + mc ≤ R.cells ∧ slots + ms ≤ R.slots) (hdg : decode cc pc = .ok (.invokevirtual index, 3)) (hn : pc + 3 = n) {stk : List Value} (hstk : stk = As.reverse ++ .ref b :: st) (kk : ∀ u : S, P u → sg_G p l e R s m args below meth c D A nL (cells + mc) (slots + ms) Q n lv (.ref (ra u) :: st) (w2 u)) : sg_G p l e R s m args below meth c D A nL cells slots Q pc lv stk w := by
  subst hn
  subst hstk
  intro H locs ls hP hD hS hh
  obtain ⟨wr, hp1, hp2⟩ := hcut
  have hPp := sg_permP hp1 hP
  have hDp := sg_permD hp1 hD
  have hF : ∀ q, va_A wc H.size q → A q := sg_cutP_free hDp (fun q h => C.2.2.2.2.2.2.1 q (Nat.le_trans hS.1 h))
  refine va_callr (va_runV (C := C2) (b := b) (As := As) (rest := st) ⟨C.1, C.2.1, C.2.2.1, C.2.2.2.1, C.2.2.2.2.1⟩ (hM H.size) (cwV n0 C.2.2.2.2.1 hG hw0 rfl rfl hd hR) ⟨sg_blind C.2.2.2.2.2.2.2.1, va_recv C.2.2.2.2.2.1 hP hrc hre, sg_preP_of C hPp hDp hS⟩ rfl hlen hh.1 rfl (lv_room hroom) hdg hcs) hS (fun q _ h => hF q h) hF (fun u ra1 t H1 locs1 ht hvm hw hB hz1 hk1 hS1 => ?_)
  obtain ⟨hra, hB⟩ := hB
  subst hra
  obtain ⟨b1, b2⟩ := sg_backP C (hp2 u) hPp hDp hS ht hB hk1
  exact kk u hw H1 locs1 ls b1 b2 hS1 hh
theorem g_XUi (n : Nat) (C : sg_C p R s m args meth c cc nL own Ts D Y Z A) {y : MethodName} {bytes : ByteArray} {maxL n0 index mc ms : Nat} {ret : Option FieldType} {ws ws' : List Cond} {fr lo : Nat} {As : List Value} {S : Type} {wc : va_W} {w1 w2 : S → va_W} {C2 owner : String} {xm : MethodName} {b : Nat} {q0 ci : Nat} {T : u_T} {N : Nat} {fs : List Value} {P : Int32 → S → Prop} (hM : sg_XI l y ws fr lo mc ms D Y Z (.ref b :: As) wc P w1) (hG : GoodIn Ts (va_wsU own index C2 owner xm y ws)) (hyx : y = ⟨owner, xm.name, xm.desc⟩) (hd : owner ≠ "java/lang/invoke/MethodHandle" ∧ owner ≠ "java/lang/invoke/VarHandle" ∧ (parseMethodDescriptor xm.desc).map (fun d => d.parameters.length) = some n0) (hw0 : ws = Cond.code y bytes maxL ret :: ws') (hR : fr + 1 ≤ R.frames ∧ 8 + (maxL + 11) + lo ≤ R.locals) (hrc : vwCl[ci]? = some (C2, T, N)) (hre : w[q0]? = some (b, .inr (ci, fs))) (hcut : ∃ wr : va_W, w.Perm (wc ++ wr) ∧ ∀ u : S, (wr ++ w1 u).Perm (w2 u)) (hlen : As.length = n0) (hroom : (st.map fun v => v.category).sum ≤ 8) (hcs : cells + mc ≤ R.cells ∧ slots + ms ≤ R.slots) (hdg : decode cc pc = .ok (.invokevirtual index, 3)) (hn : pc + 3 = n) {stk : List Value} (hstk : stk = As.reverse ++ .ref b :: st) (kk : ∀ (r : Int32) (u : S), P r u → sg_G p l e R s m args below meth c D A nL (cells + mc) (slots + ms) Q n lv (.int r :: st) (w2 u)) : sg_G p l e R s m args below meth c D A nL cells slots Q pc lv stk w := by
  subst hn
  subst hstk
  intro H locs ls hP hD hS hh
  obtain ⟨wr, hp1, hp2⟩ := hcut
  have hPp := sg_permP hp1 hP
  have hDp := sg_permD hp1 hD
  have hF : ∀ q, va_A wc H.size q → A q := sg_cutP_free hDp (fun q h => C.2.2.2.2.2.2.1 q (Nat.le_trans hS.1 h))
  refine va_calli (va_runU (C := C2) (b := b) (As := As) (rest := st) ⟨C.1, C.2.1, C.2.2.1, C.2.2.2.1, C.2.2.2.2.1⟩ (hM H.size) (va_cwU n0 C.2.2.2.2.1 hG hw0 rfl rfl hyx hd hR) ⟨sg_blind C.2.2.2.2.2.2.2.1, va_recv C.2.2.2.2.2.1 hP hrc hre, sg_preP_of C hPp hDp hS⟩ rfl hlen hh.1 rfl (lv_room hroom) hdg hcs) hS (fun q _ h => hF q h) hF (fun r1 u t H1 locs1 ht hvm hw hB hz1 hk1 hS1 => ?_)
  obtain ⟨b1, b2⟩ := sg_backP C (hp2 u) hPp hDp hS ht hB hk1
  exact kk r1 u hw H1 locs1 ls b1 b2 hS1 hh
theorem g_XUv (n : Nat) (C : sg_C p R s m args meth c cc nL own Ts D Y Z A) {y : MethodName} {bytes : ByteArray} {maxL n0 index mc ms : Nat} {ret : Option FieldType} {ws ws' : List Cond} {fr lo : Nat} {As : List Value} {S : Type} {wc : va_W} {w1 w2 : S → va_W} {C2 owner : String} {xm : MethodName} {b : Nat} {q0 ci : Nat} {T : u_T} {N : Nat} {fs : List Value} {P : S → Prop} (hM : sg_XV l y ws fr lo mc ms D Y Z (.ref b :: As) wc P w1) (hG : GoodIn Ts (va_wsU own index C2 owner xm y ws)) (hyx : y = ⟨owner, xm.name, xm.desc⟩) (hd : owner ≠ "java/lang/invoke/MethodHandle" ∧ owner ≠ "java/lang/invoke/VarHandle" ∧ (parseMethodDescriptor xm.desc).map (fun d => d.parameters.length) = some n0) (hw0 : ws = Cond.code y bytes maxL ret :: ws') (hR : fr + 1 ≤ R.frames ∧ 8 + (maxL + 11) + lo ≤ R.locals) (hrc : vwCl[ci]? = some (C2, T, N)) (hre : w[q0]? = some (b, .inr (ci, fs))) (hcut : ∃ wr : va_W, w.Perm (wc ++ wr) ∧ ∀ u : S, (wr ++ w1 u).Perm (w2 u)) (hlen : As.length = n0) (hroom : (st.map fun v => v.category).sum ≤ 8) (hcs : cells + mc ≤ R.cells ∧ slots + ms ≤ R.slots) (hdg : decode cc pc = .ok (.invokevirtual index, 3)) (hn : pc + 3 = n) {stk : List Value} (hstk : stk = As.reverse ++ .ref b :: st) (kk : ∀ u : S, P u → sg_G p l e R s m args below meth c D A nL (cells + mc) (slots + ms) Q n lv st (w2 u)) : sg_G p l e R s m args below meth c D A nL cells slots Q pc lv stk w := by
  subst hn
  subst hstk
  intro H locs ls hP hD hS hh
  obtain ⟨wr, hp1, hp2⟩ := hcut
  have hPp := sg_permP hp1 hP
  have hDp := sg_permD hp1 hD
  have hF : ∀ q, va_A wc H.size q → A q := sg_cutP_free hDp (fun q h => C.2.2.2.2.2.2.1 q (Nat.le_trans hS.1 h))
  refine va_callv (va_runU (C := C2) (b := b) (As := As) (rest := st) ⟨C.1, C.2.1, C.2.2.1, C.2.2.2.1, C.2.2.2.2.1⟩ (hM H.size) (va_cwU n0 C.2.2.2.2.1 hG hw0 rfl rfl hyx hd hR) ⟨sg_blind C.2.2.2.2.2.2.2.1, va_recv C.2.2.2.2.2.1 hP hrc hre, sg_preP_of C hPp hDp hS⟩ rfl hlen hh.1 rfl (lv_room hroom) hdg hcs) hS (fun q _ h => hF q h) hF (fun u t H1 locs1 ht hvm hw hB hz1 hk1 hS1 => ?_)
  obtain ⟨b1, b2⟩ := sg_backP C (hp2 u) hPp hDp hS ht hB hk1
  exact kk u hw H1 locs1 ls b1 b2 hS1 hh
theorem g_XUr (n : Nat) (C : sg_C p R s m args meth c cc nL own Ts D Y Z A) {y : MethodName} {bytes : ByteArray} {maxL n0 index mc ms : Nat} {ret : Option FieldType} {ws ws' : List Cond} {fr lo : Nat} {As : List Value} {S : Type} {wc : va_W} {w1 w2 : S → va_W} {C2 owner : String} {xm : MethodName} {b : Nat} {q0 ci : Nat} {T : u_T} {N : Nat} {fs : List Value} {P : S → Prop} {ra : S → Nat} (hM : sg_XR l y ws fr lo mc ms D Y Z (.ref b :: As) wc P ra w1) (hG : GoodIn Ts (va_wsU own index C2 owner xm y ws)) (hyx : y = ⟨owner, xm.name, xm.desc⟩) (hd : owner ≠ "java/lang/invoke/MethodHandle" ∧ owner ≠ "java/lang/invoke/VarHandle" ∧ (parseMethodDescriptor xm.desc).map (fun d => d.parameters.length) = some n0) (hw0 : ws = Cond.code y bytes maxL ret :: ws') (hR : fr + 1 ≤ R.frames ∧ 8 + (maxL + 11) + lo ≤ R.locals) (hrc : vwCl[ci]? = some (C2, T, N)) (hre : w[q0]? = some (b, .inr (ci, fs))) (hcut : ∃ wr : va_W, w.Perm (wc ++ wr) ∧ ∀ u : S, (wr ++ w1 u).Perm (w2 u)) (hlen : As.length = n0) (hroom : (st.map fun v => v.category).sum ≤ 8) (hcs : cells + mc ≤ R.cells ∧ slots + ms ≤ R.slots) (hdg : decode cc pc = .ok (.invokevirtual index, 3)) (hn : pc + 3 = n) {stk : List Value} (hstk : stk = As.reverse ++ .ref b :: st) (kk : ∀ u : S, P u → sg_G p l e R s m args below meth c D A nL (cells + mc) (slots + ms) Q n lv (.ref (ra u) :: st) (w2 u)) : sg_G p l e R s m args below meth c D A nL cells slots Q pc lv stk w := by
  subst hn
  subst hstk
  intro H locs ls hP hD hS hh
  obtain ⟨wr, hp1, hp2⟩ := hcut
  have hPp := sg_permP hp1 hP
  have hDp := sg_permD hp1 hD
  have hF : ∀ q, va_A wc H.size q → A q := sg_cutP_free hDp (fun q h => C.2.2.2.2.2.2.1 q (Nat.le_trans hS.1 h))
  refine va_callr (va_runU (C := C2) (b := b) (As := As) (rest := st) ⟨C.1, C.2.1, C.2.2.1, C.2.2.2.1, C.2.2.2.2.1⟩ (hM H.size) (va_cwU n0 C.2.2.2.2.1 hG hw0 rfl rfl hyx hd hR) ⟨sg_blind C.2.2.2.2.2.2.2.1, va_recv C.2.2.2.2.2.1 hP hrc hre, sg_preP_of C hPp hDp hS⟩ rfl hlen hh.1 rfl (lv_room hroom) hdg hcs) hS (fun q _ h => hF q h) hF (fun u ra1 t H1 locs1 ht hvm hw hB hz1 hk1 hS1 => ?_)
  obtain ⟨hra, hB⟩ := hB
  subst hra
  obtain ⟨b1, b2⟩ := sg_backP C (hp2 u) hPp hDp hS ht hB hk1
  exact kk u hw H1 locs1 ls b1 b2 hS1 hh
theorem g_XSUi (n : Nat) (C : sg_C p R s m args meth c cc nL own Ts D Y Z A) {y : MethodName} {bytes : ByteArray} {maxL n0 index mc ms : Nat} {ret : Option FieldType} {ws ws' : List Cond} {fr lo : Nat} {As : List Value} {S : Type} {wc : va_W} {w1 w2 : S → va_W} {C2 : String} {b : Nat} {q0 ci : Nat} {T : u_T} {N : Nat} {fs : List Value} {P : Int32 → S → Prop} (hM : sg_XI l y ws fr lo mc ms D Y Z (.ref b :: As) wc P w1) (hG : GoodIn Ts (va_wsSU own index y ws)) (hd : y.name ≠ "<init>" ∧ (parseMethodDescriptor y.desc).map (fun d => d.parameters.length) = some n0) (hw0 : ws = Cond.code y bytes maxL ret :: ws') (hR : fr + 1 ≤ R.frames ∧ 8 + (maxL + 11) + lo ≤ R.locals) (hrc : vwCl[ci]? = some (C2, T, N)) (hre : w[q0]? = some (b, .inr (ci, fs))) (hcut : ∃ wr : va_W, w.Perm (wc ++ wr) ∧ ∀ u : S, (wr ++ w1 u).Perm (w2 u)) (hlen : As.length = n0) (hroom : (st.map fun v => v.category).sum ≤ 8) (hcs : cells + mc ≤ R.cells ∧ slots + ms ≤ R.slots) (hdg : decode cc pc = .ok (.invokespecial index, 3)) (hn : pc + 3 = n) {stk : List Value} (hstk : stk = As.reverse ++ .ref b :: st) (kk : ∀ (r : Int32) (u : S), P r u → sg_G p l e R s m args below meth c D A nL (cells + mc) (slots + ms) Q n lv (.int r :: st) (w2 u)) : sg_G p l e R s m args below meth c D A nL cells slots Q pc lv stk w := by
  subst hn
  subst hstk
  intro H locs ls hP hD hS hh
  obtain ⟨wr, hp1, hp2⟩ := hcut
  have hPp := sg_permP hp1 hP
  have hDp := sg_permD hp1 hD
  have hF : ∀ q, va_A wc H.size q → A q := sg_cutP_free hDp (fun q h => C.2.2.2.2.2.2.1 q (Nat.le_trans hS.1 h))
  refine va_calli (va_runSU (C := C2) (b := b) (As := As) (rest := st) (C.2.2.2.2.2.1.1 ci _ hrc).2 ⟨C.1, C.2.1, C.2.2.1, C.2.2.2.1, C.2.2.2.2.1⟩ (hM H.size) (va_cwSU n0 C.2.2.2.2.1 hG hw0 rfl rfl hd hR) ⟨sg_blind C.2.2.2.2.2.2.2.1, va_recv C.2.2.2.2.2.1 hP hrc hre, sg_preP_of C hPp hDp hS⟩ rfl hlen hh.1 rfl (lv_room hroom) hdg hcs) hS (fun q _ h => hF q h) hF (fun r1 u t H1 locs1 ht hvm hw hB hz1 hk1 hS1 => ?_)
  obtain ⟨b1, b2⟩ := sg_backP C (hp2 u) hPp hDp hS ht hB hk1
  exact kk r1 u hw H1 locs1 ls b1 b2 hS1 hh
theorem g_XSUv (n : Nat) (C : sg_C p R s m args meth c cc nL own Ts D Y Z A) {y : MethodName} {bytes : ByteArray} {maxL n0 index mc ms : Nat} {ret : Option FieldType} {ws ws' : List Cond} {fr lo : Nat} {As : List Value} {S : Type} {wc : va_W} {w1 w2 : S → va_W} {C2 : String} {b : Nat} {q0 ci : Nat} {T : u_T} {N : Nat} {fs : List Value} {P : S → Prop} (hM : sg_XV l y ws fr lo mc ms D Y Z (.ref b :: As) wc P w1) (hG : GoodIn Ts (va_wsSU own index y ws)) (hd : y.name ≠ "<init>" ∧ (parseMethodDescriptor y.desc).map (fun d => d.parameters.length) = some n0) (hw0 : ws = Cond.code y bytes maxL ret :: ws') (hR : fr + 1 ≤ R.frames ∧ 8 + (maxL + 11) + lo ≤ R.locals) (hrc : vwCl[ci]? = some (C2, T, N)) (hre : w[q0]? = some (b, .inr (ci, fs))) (hcut : ∃ wr : va_W, w.Perm (wc ++ wr) ∧ ∀ u : S, (wr ++ w1 u).Perm (w2 u)) (hlen : As.length = n0) (hroom : (st.map fun v => v.category).sum ≤ 8) (hcs : cells + mc ≤ R.cells ∧ slots + ms ≤ R.slots) (hdg : decode cc pc = .ok (.invokespecial index, 3)) (hn : pc + 3 = n) {stk : List Value} (hstk : stk = As.reverse ++ .ref b :: st) (kk : ∀ u : S, P u → sg_G p l e R s m args below meth c D A nL (cells + mc) (slots + ms) Q n lv st (w2 u)) : sg_G p l e R s m args below meth c D A nL cells slots Q pc lv stk w := by
  subst hn
  subst hstk
  intro H locs ls hP hD hS hh
  obtain ⟨wr, hp1, hp2⟩ := hcut
  have hPp := sg_permP hp1 hP
  have hDp := sg_permD hp1 hD
  have hF : ∀ q, va_A wc H.size q → A q := sg_cutP_free hDp (fun q h => C.2.2.2.2.2.2.1 q (Nat.le_trans hS.1 h))
  refine va_callv (va_runSU (C := C2) (b := b) (As := As) (rest := st) (C.2.2.2.2.2.1.1 ci _ hrc).2 ⟨C.1, C.2.1, C.2.2.1, C.2.2.2.1, C.2.2.2.2.1⟩ (hM H.size) (va_cwSU n0 C.2.2.2.2.1 hG hw0 rfl rfl hd hR) ⟨sg_blind C.2.2.2.2.2.2.2.1, va_recv C.2.2.2.2.2.1 hP hrc hre, sg_preP_of C hPp hDp hS⟩ rfl hlen hh.1 rfl (lv_room hroom) hdg hcs) hS (fun q _ h => hF q h) hF (fun u t H1 locs1 ht hvm hw hB hz1 hk1 hS1 => ?_)
  obtain ⟨b1, b2⟩ := sg_backP C (hp2 u) hPp hDp hS ht hB hk1
  exact kk u hw H1 locs1 ls b1 b2 hS1 hh
theorem g_XSUr (n : Nat) (C : sg_C p R s m args meth c cc nL own Ts D Y Z A) {y : MethodName} {bytes : ByteArray} {maxL n0 index mc ms : Nat} {ret : Option FieldType} {ws ws' : List Cond} {fr lo : Nat} {As : List Value} {S : Type} {wc : va_W} {w1 w2 : S → va_W} {C2 : String} {b : Nat} {q0 ci : Nat} {T : u_T} {N : Nat} {fs : List Value} {P : S → Prop} {ra : S → Nat} (hM : sg_XR l y ws fr lo mc ms D Y Z (.ref b :: As) wc P ra w1) (hG : GoodIn Ts (va_wsSU own index y ws)) (hd : y.name ≠ "<init>" ∧ (parseMethodDescriptor y.desc).map (fun d => d.parameters.length) = some n0) (hw0 : ws = Cond.code y bytes maxL ret :: ws') (hR : fr + 1 ≤ R.frames ∧ 8 + (maxL + 11) + lo ≤ R.locals) (hrc : vwCl[ci]? = some (C2, T, N)) (hre : w[q0]? = some (b, .inr (ci, fs))) (hcut : ∃ wr : va_W, w.Perm (wc ++ wr) ∧ ∀ u : S, (wr ++ w1 u).Perm (w2 u)) (hlen : As.length = n0) (hroom : (st.map fun v => v.category).sum ≤ 8) (hcs : cells + mc ≤ R.cells ∧ slots + ms ≤ R.slots) (hdg : decode cc pc = .ok (.invokespecial index, 3)) (hn : pc + 3 = n) {stk : List Value} (hstk : stk = As.reverse ++ .ref b :: st) (kk : ∀ u : S, P u → sg_G p l e R s m args below meth c D A nL (cells + mc) (slots + ms) Q n lv (.ref (ra u) :: st) (w2 u)) : sg_G p l e R s m args below meth c D A nL cells slots Q pc lv stk w := by
  subst hn
  subst hstk
  intro H locs ls hP hD hS hh
  obtain ⟨wr, hp1, hp2⟩ := hcut
  have hPp := sg_permP hp1 hP
  have hDp := sg_permD hp1 hD
  have hF : ∀ q, va_A wc H.size q → A q := sg_cutP_free hDp (fun q h => C.2.2.2.2.2.2.1 q (Nat.le_trans hS.1 h))
  refine va_callr (va_runSU (C := C2) (b := b) (As := As) (rest := st) (C.2.2.2.2.2.1.1 ci _ hrc).2 ⟨C.1, C.2.1, C.2.2.1, C.2.2.2.1, C.2.2.2.2.1⟩ (hM H.size) (va_cwSU n0 C.2.2.2.2.1 hG hw0 rfl rfl hd hR) ⟨sg_blind C.2.2.2.2.2.2.2.1, va_recv C.2.2.2.2.2.1 hP hrc hre, sg_preP_of C hPp hDp hS⟩ rfl hlen hh.1 rfl (lv_room hroom) hdg hcs) hS (fun q _ h => hF q h) hF (fun u ra1 t H1 locs1 ht hvm hw hB hz1 hk1 hS1 => ?_)
  obtain ⟨hra, hB⟩ := hB
  subst hra
  obtain ⟨b1, b2⟩ := sg_backP C (hp2 u) hPp hDp hS ht hB hk1
  exact kk u hw H1 locs1 ls b1 b2 hS1 hh
theorem g_XSi (n : Nat) (C : sg_C p R s m args meth c cc nL own Ts D Y Z A) {y : MethodName} {bytes : ByteArray} {maxL n0 index mc ms : Nat} {ret : Option FieldType} {ws ws' : List Cond} {fr lo : Nat} {As : List Value} {S : Type} {wc : va_W} {w1 w2 : S → va_W}  {P : Int32 → S → Prop} (hM : sg_XI l y ws fr lo mc ms D Y Z As wc P w1) (hG : GoodIn Ts (va_wsS own index y ws)) (hd : y.cls ≠ "java/lang/invoke/MethodHandle" ∧ y.cls ≠ "java/lang/invoke/VarHandle" ∧ (parseMethodDescriptor y.desc).map (fun d => d.parameters.length) = some n0) (hw0 : ws = Cond.code y bytes maxL ret :: ws') (hR : fr + 1 ≤ R.frames ∧ 8 + (maxL + 11) + lo ≤ R.locals)  (hcut : ∃ wr : va_W, w.Perm (wc ++ wr) ∧ ∀ u : S, (wr ++ w1 u).Perm (w2 u)) (hlen : As.length = n0) (hroom : (st.map fun v => v.category).sum ≤ 8) (hcs : cells + mc ≤ R.cells ∧ slots + ms ≤ R.slots) (hdg : decode cc pc = .ok (.invokestatic index, 3)) (hn : pc + 3 = n) {stk : List Value} (hstk : stk = As.reverse ++ st) (kk : ∀ (r : Int32) (u : S), P r u → sg_G p l e R s m args below meth c D A nL (cells + mc) (slots + ms) Q n lv (.int r :: st) (w2 u)) : sg_G p l e R s m args below meth c D A nL cells slots Q pc lv stk w := by
  subst hn
  subst hstk
  intro H locs ls hP hD hS hh
  obtain ⟨wr, hp1, hp2⟩ := hcut
  have hPp := sg_permP hp1 hP
  have hDp := sg_permD hp1 hD
  have hF : ∀ q, va_A wc H.size q → A q := sg_cutP_free hDp (fun q h => C.2.2.2.2.2.2.1 q (Nat.le_trans hS.1 h))
  refine va_calli (va_runS (As := As) (rest := st) ⟨C.1, C.2.1, C.2.2.1, C.2.2.2.1, C.2.2.2.2.1⟩ (hM H.size) (va_cwS n0 C.2.2.2.2.1 hG hw0 rfl rfl hd hR) ⟨sg_blind C.2.2.2.2.2.2.2.1, sg_preP_of C hPp hDp hS⟩ rfl hlen hh.1 rfl (lv_room hroom) hdg hcs) hS (fun q _ h => hF q h) hF (fun r1 u t H1 locs1 ht hvm hw hB hz1 hk1 hS1 => ?_)
  obtain ⟨b1, b2⟩ := sg_backP C (hp2 u) hPp hDp hS ht hB hk1
  exact kk r1 u hw H1 locs1 ls b1 b2 hS1 hh
theorem g_XSv (n : Nat) (C : sg_C p R s m args meth c cc nL own Ts D Y Z A) {y : MethodName} {bytes : ByteArray} {maxL n0 index mc ms : Nat} {ret : Option FieldType} {ws ws' : List Cond} {fr lo : Nat} {As : List Value} {S : Type} {wc : va_W} {w1 w2 : S → va_W}  {P : S → Prop} (hM : sg_XV l y ws fr lo mc ms D Y Z As wc P w1) (hG : GoodIn Ts (va_wsS own index y ws)) (hd : y.cls ≠ "java/lang/invoke/MethodHandle" ∧ y.cls ≠ "java/lang/invoke/VarHandle" ∧ (parseMethodDescriptor y.desc).map (fun d => d.parameters.length) = some n0) (hw0 : ws = Cond.code y bytes maxL ret :: ws') (hR : fr + 1 ≤ R.frames ∧ 8 + (maxL + 11) + lo ≤ R.locals)  (hcut : ∃ wr : va_W, w.Perm (wc ++ wr) ∧ ∀ u : S, (wr ++ w1 u).Perm (w2 u)) (hlen : As.length = n0) (hroom : (st.map fun v => v.category).sum ≤ 8) (hcs : cells + mc ≤ R.cells ∧ slots + ms ≤ R.slots) (hdg : decode cc pc = .ok (.invokestatic index, 3)) (hn : pc + 3 = n) {stk : List Value} (hstk : stk = As.reverse ++ st) (kk : ∀ u : S, P u → sg_G p l e R s m args below meth c D A nL (cells + mc) (slots + ms) Q n lv st (w2 u)) : sg_G p l e R s m args below meth c D A nL cells slots Q pc lv stk w := by
  subst hn
  subst hstk
  intro H locs ls hP hD hS hh
  obtain ⟨wr, hp1, hp2⟩ := hcut
  have hPp := sg_permP hp1 hP
  have hDp := sg_permD hp1 hD
  have hF : ∀ q, va_A wc H.size q → A q := sg_cutP_free hDp (fun q h => C.2.2.2.2.2.2.1 q (Nat.le_trans hS.1 h))
  refine va_callv (va_runS (As := As) (rest := st) ⟨C.1, C.2.1, C.2.2.1, C.2.2.2.1, C.2.2.2.2.1⟩ (hM H.size) (va_cwS n0 C.2.2.2.2.1 hG hw0 rfl rfl hd hR) ⟨sg_blind C.2.2.2.2.2.2.2.1, sg_preP_of C hPp hDp hS⟩ rfl hlen hh.1 rfl (lv_room hroom) hdg hcs) hS (fun q _ h => hF q h) hF (fun u t H1 locs1 ht hvm hw hB hz1 hk1 hS1 => ?_)
  obtain ⟨b1, b2⟩ := sg_backP C (hp2 u) hPp hDp hS ht hB hk1
  exact kk u hw H1 locs1 ls b1 b2 hS1 hh
theorem g_XSr (n : Nat) (C : sg_C p R s m args meth c cc nL own Ts D Y Z A) {y : MethodName} {bytes : ByteArray} {maxL n0 index mc ms : Nat} {ret : Option FieldType} {ws ws' : List Cond} {fr lo : Nat} {As : List Value} {S : Type} {wc : va_W} {w1 w2 : S → va_W}  {P : S → Prop} {ra : S → Nat} (hM : sg_XR l y ws fr lo mc ms D Y Z As wc P ra w1) (hG : GoodIn Ts (va_wsS own index y ws)) (hd : y.cls ≠ "java/lang/invoke/MethodHandle" ∧ y.cls ≠ "java/lang/invoke/VarHandle" ∧ (parseMethodDescriptor y.desc).map (fun d => d.parameters.length) = some n0) (hw0 : ws = Cond.code y bytes maxL ret :: ws') (hR : fr + 1 ≤ R.frames ∧ 8 + (maxL + 11) + lo ≤ R.locals)  (hcut : ∃ wr : va_W, w.Perm (wc ++ wr) ∧ ∀ u : S, (wr ++ w1 u).Perm (w2 u)) (hlen : As.length = n0) (hroom : (st.map fun v => v.category).sum ≤ 8) (hcs : cells + mc ≤ R.cells ∧ slots + ms ≤ R.slots) (hdg : decode cc pc = .ok (.invokestatic index, 3)) (hn : pc + 3 = n) {stk : List Value} (hstk : stk = As.reverse ++ st) (kk : ∀ u : S, P u → sg_G p l e R s m args below meth c D A nL (cells + mc) (slots + ms) Q n lv (.ref (ra u) :: st) (w2 u)) : sg_G p l e R s m args below meth c D A nL cells slots Q pc lv stk w := by
  subst hn
  subst hstk
  intro H locs ls hP hD hS hh
  obtain ⟨wr, hp1, hp2⟩ := hcut
  have hPp := sg_permP hp1 hP
  have hDp := sg_permD hp1 hD
  have hF : ∀ q, va_A wc H.size q → A q := sg_cutP_free hDp (fun q h => C.2.2.2.2.2.2.1 q (Nat.le_trans hS.1 h))
  refine va_callr (va_runS (As := As) (rest := st) ⟨C.1, C.2.1, C.2.2.1, C.2.2.2.1, C.2.2.2.2.1⟩ (hM H.size) (va_cwS n0 C.2.2.2.2.1 hG hw0 rfl rfl hd hR) ⟨sg_blind C.2.2.2.2.2.2.2.1, sg_preP_of C hPp hDp hS⟩ rfl hlen hh.1 rfl (lv_room hroom) hdg hcs) hS (fun q _ h => hF q h) hF (fun u ra1 t H1 locs1 ht hvm hw hB hz1 hk1 hS1 => ?_)
  obtain ⟨hra, hB⟩ := hB
  subst hra
  obtain ⟨b1, b2⟩ := sg_backP C (hp2 u) hPp hDp hS ht hB hk1
  exact kk u hw H1 locs1 ls b1 b2 hS1 hh
theorem g_XIv (n : Nat) (C : sg_C p R s m args meth c cc nL own Ts D Y Z A) {y : MethodName} {bytes : ByteArray} {maxL n0 index mc ms : Nat} {ret : Option FieldType} {ws ws' : List Cond} {fr lo : Nat} {As : List Value} {S : Type} {wc : va_W} {w1 w2 : S → va_W} {b : Nat} {P : S → Prop} (hM : sg_XV l y ws fr lo mc ms D Y Z (.ref b :: As) wc P w1) (hG : GoodIn Ts ws) (hini : Cond.initialized y.cls ∈ Ts) (hlk : Cond.methodLink own index y ∈ Ts) (him : Cond.instanceMethod y ∈ Ts) (hyi : y.name = "<init>") (hd : y.cls ≠ "java/lang/invoke/MethodHandle" ∧ y.cls ≠ "java/lang/invoke/VarHandle" ∧ (parseMethodDescriptor y.desc).map (fun d => d.parameters.length) = some n0) (hw0 : ws = Cond.code y bytes maxL none :: ws') (hR : fr + 1 ≤ R.frames ∧ 8 + (maxL + 11) + lo ≤ R.locals)  (hcut : ∃ wr : va_W, w.Perm (wc ++ wr) ∧ ∀ u : S, (wr ++ w1 u).Perm (w2 u)) (hlen : As.length = n0) (hroom : (st.map fun v => v.category).sum ≤ 8) (hcs : cells + mc ≤ R.cells ∧ slots + ms ≤ R.slots) (hdg : decode cc pc = .ok (.invokespecial index, 3)) (hn : pc + 3 = n) {stk : List Value} (hstk : stk = As.reverse ++ .ref b :: st) (kk : ∀ u : S, P u → sg_G p l e R s m args below meth c D A nL (cells + mc) (slots + ms) Q n lv st (w2 u)) : sg_G p l e R s m args below meth c D A nL cells slots Q pc lv stk w := by
  subst hn
  subst hstk
  intro H locs ls hP hD hS hh
  obtain ⟨wr, hp1, hp2⟩ := hcut
  have hPp := sg_permP hp1 hP
  have hDp := sg_permD hp1 hD
  have hF : ∀ q, va_A wc H.size q → A q := sg_cutP_free hDp (fun q h => C.2.2.2.2.2.2.1 q (Nat.le_trans hS.1 h))
  refine va_callv (va_runI (b := b) (As := As) (rest := st) ⟨C.1, C.2.1, C.2.2.1, C.2.2.2.1, C.2.2.2.2.1⟩ (hM H.size) (cwI n0 C.2.2.2.2.1 hG hw0 rfl rfl (C.2.2.2.2.1 _ hini) (C.2.2.2.2.1 _ hlk) (C.2.2.2.2.1 _ him) hyi hd hR) ⟨sg_blind C.2.2.2.2.2.2.2.1, sg_preP_of C hPp hDp hS⟩ rfl hlen hh.1 rfl (lv_room hroom) hdg hcs) hS (fun q _ h => hF q h) hF (fun u t H1 locs1 ht hvm hw hB hz1 hk1 hS1 => ?_)
  obtain ⟨b1, b2⟩ := sg_backP C (hp2 u) hPp hDp hS ht hB hk1
  exact kk u hw H1 locs1 ls b1 b2 hS1 hh
theorem g_XINv (n : Nat) (C : sg_C p R s m args meth c cc nL own Ts D Y Z A) {y : MethodName} {bytes : ByteArray} {maxL n0 index mc ms : Nat} {ret : Option FieldType} {ws ws' : List Cond} {fr lo : Nat} {As : List Value} {S : Type} {wc : va_W} {w1 w2 : S → va_W} {b : Nat} {host : String} {P : S → Prop} (hM : sg_XV l y ws fr lo mc ms D Y Z (.ref b :: As) wc P w1) (hG : GoodIn Ts ws) (hnest : va_Nw (.methodLinkNest own index y host) s) (hini : Cond.initialized y.cls ∈ Ts) (him : Cond.instanceMethod y ∈ Ts) (hyi : y.name = "<init>") (hd : y.cls ≠ "java/lang/invoke/MethodHandle" ∧ y.cls ≠ "java/lang/invoke/VarHandle" ∧ (parseMethodDescriptor y.desc).map (fun d => d.parameters.length) = some n0) (hw0 : ws = Cond.code y bytes maxL none :: ws') (hR : fr + 1 ≤ R.frames ∧ 8 + (maxL + 11) + lo ≤ R.locals)  (hcut : ∃ wr : va_W, w.Perm (wc ++ wr) ∧ ∀ u : S, (wr ++ w1 u).Perm (w2 u)) (hlen : As.length = n0) (hroom : (st.map fun v => v.category).sum ≤ 8) (hcs : cells + mc ≤ R.cells ∧ slots + ms ≤ R.slots) (hdg : decode cc pc = .ok (.invokespecial index, 3)) (hn : pc + 3 = n) {stk : List Value} (hstk : stk = As.reverse ++ .ref b :: st) (kk : ∀ u : S, P u → sg_G p l e R s m args below meth c D A nL (cells + mc) (slots + ms) Q n lv st (w2 u)) : sg_G p l e R s m args below meth c D A nL cells slots Q pc lv stk w := by
  subst hn
  subst hstk
  intro H locs ls hP hD hS hh
  obtain ⟨wr, hp1, hp2⟩ := hcut
  have hPp := sg_permP hp1 hP
  have hDp := sg_permD hp1 hD
  have hF : ∀ q, va_A wc H.size q → A q := sg_cutP_free hDp (fun q h => C.2.2.2.2.2.2.1 q (Nat.le_trans hS.1 h))
  refine va_callv (va_runIN (b := b) (As := As) (rest := st) ⟨C.1, C.2.1, C.2.2.1, C.2.2.2.1, C.2.2.2.2.1⟩ (hM H.size) ⟨va_cnB n0 C.2.2.2.2.1 hG hw0 rfl rfl hnest (C.2.2.2.2.1 _ hini) hd hR, hyi, C.2.2.2.2.1 _ him⟩ ⟨sg_blind C.2.2.2.2.2.2.2.1, sg_preP_of C hPp hDp hS⟩ rfl hlen hh.1 rfl (lv_room hroom) hdg hcs) hS (fun q _ h => hF q h) hF (fun u t H1 locs1 ht hvm hw hB hz1 hk1 hS1 => ?_)
  obtain ⟨b1, b2⟩ := sg_backP C (hp2 u) hPp hDp hS ht hB hk1
  exact kk u hw H1 locs1 ls b1 b2 hS1 hh
theorem g_callUi (n : Nat) (C : sg_C p R s m args meth c cc nL own Ts D Y Z A) {y : MethodName} {bytes : ByteArray} {maxL n0 index : Nat} {ret : Option FieldType} {ws ws' : List Cond} {fr lo : Nat} {As : List Value} {wc w1 w2 : va_W} {C2 : String} {b : Nat} {q0 ci : Nat} {T : u_T} {N : Nat} {fs : List Value} {owner : String} {xm : MethodName} {r : Int32} (hM : sg_MI l y ws fr lo D Y Z (.ref b :: As) wc r w1) (hG : GoodIn Ts (va_wsU own index C2 owner xm y ws)) (hyx : y = ⟨owner, xm.name, xm.desc⟩) (hd : owner ≠ "java/lang/invoke/MethodHandle" ∧ owner ≠ "java/lang/invoke/VarHandle" ∧ (parseMethodDescriptor xm.desc).map (fun d => d.parameters.length) = some n0) (hw0 : ws = Cond.code y bytes maxL ret :: ws') (hR : fr + 1 ≤ R.frames ∧ 8 + (maxL + 11) + lo ≤ R.locals) (hrc : vwCl[ci]? = some (C2, T, N)) (hre : w[q0]? = some (b, .inr (ci, fs))) (hcut : sg_cutP w wc w1 w2) (hlen : As.length = n0) (hroom : (st.map fun v => v.category).sum ≤ 8) (hcs : cells ≤ R.cells ∧ slots ≤ R.slots) (hdg : decode cc pc = .ok (.invokevirtual index, 3)) (hn : pc + 3 = n) {stk : List Value} (hstk : stk = As.reverse ++ .ref b :: st) (kk : sg_G p l e R s m args below meth c D A nL cells slots Q n lv (.int r :: st) w2) : sg_G p l e R s m args below meth c D A nL cells slots Q pc lv stk w := by
  subst hn
  subst hstk
  intro H locs ls hP hD hS hh
  obtain ⟨wr, hp1, hp2⟩ := hcut
  have hPp := sg_permP hp1 hP
  have hDp := sg_permD hp1 hD
  have hF : ∀ q, va_A wc H.size q → A q := sg_cutP_free hDp (fun q h => C.2.2.2.2.2.2.1 q (Nat.le_trans hS.1 h))
  refine va_calli (va_runU (C := C2) (b := b) (As := As) (rest := st) ⟨C.1, C.2.1, C.2.2.1, C.2.2.2.1, C.2.2.2.2.1⟩ (hM H.size) (va_cwU n0 C.2.2.2.2.1 hG hw0 rfl rfl hyx hd hR) ⟨sg_blind C.2.2.2.2.2.2.2.1, va_recv C.2.2.2.2.2.1 hP hrc hre, sg_preP_of C hPp hDp hS⟩ rfl hlen hh.1 rfl (lv_room hroom) hdg hcs) hS (fun q _ h => hF q h) hF (fun r1 u t H1 locs1 ht hvm hw hB hz1 hk1 hS1 => ?_)
  have hw : r1 = r := hw
  subst hw
  obtain ⟨b1, b2⟩ := sg_backP C hp2 hPp hDp hS ht hB hk1
  exact kk H1 locs1 ls b1 b2 hS1 hh
theorem g_callUv (n : Nat) (C : sg_C p R s m args meth c cc nL own Ts D Y Z A) {y : MethodName} {bytes : ByteArray} {maxL n0 index : Nat} {ret : Option FieldType} {ws ws' : List Cond} {fr lo : Nat} {As : List Value} {wc w1 w2 : va_W} {C2 : String} {b : Nat} {q0 ci : Nat} {T : u_T} {N : Nat} {fs : List Value} {owner : String} {xm : MethodName} (hM : sg_MV l y ws fr lo D Y Z (.ref b :: As) wc w1) (hG : GoodIn Ts (va_wsU own index C2 owner xm y ws)) (hyx : y = ⟨owner, xm.name, xm.desc⟩) (hd : owner ≠ "java/lang/invoke/MethodHandle" ∧ owner ≠ "java/lang/invoke/VarHandle" ∧ (parseMethodDescriptor xm.desc).map (fun d => d.parameters.length) = some n0) (hw0 : ws = Cond.code y bytes maxL ret :: ws') (hR : fr + 1 ≤ R.frames ∧ 8 + (maxL + 11) + lo ≤ R.locals) (hrc : vwCl[ci]? = some (C2, T, N)) (hre : w[q0]? = some (b, .inr (ci, fs))) (hcut : sg_cutP w wc w1 w2) (hlen : As.length = n0) (hroom : (st.map fun v => v.category).sum ≤ 8) (hcs : cells ≤ R.cells ∧ slots ≤ R.slots) (hdg : decode cc pc = .ok (.invokevirtual index, 3)) (hn : pc + 3 = n) {stk : List Value} (hstk : stk = As.reverse ++ .ref b :: st) (kk : sg_G p l e R s m args below meth c D A nL cells slots Q n lv st w2) : sg_G p l e R s m args below meth c D A nL cells slots Q pc lv stk w := by
  subst hn
  subst hstk
  intro H locs ls hP hD hS hh
  obtain ⟨wr, hp1, hp2⟩ := hcut
  have hPp := sg_permP hp1 hP
  have hDp := sg_permD hp1 hD
  have hF : ∀ q, va_A wc H.size q → A q := sg_cutP_free hDp (fun q h => C.2.2.2.2.2.2.1 q (Nat.le_trans hS.1 h))
  refine va_callv (va_runU (C := C2) (b := b) (As := As) (rest := st) ⟨C.1, C.2.1, C.2.2.1, C.2.2.2.1, C.2.2.2.2.1⟩ (hM H.size) (va_cwU n0 C.2.2.2.2.1 hG hw0 rfl rfl hyx hd hR) ⟨sg_blind C.2.2.2.2.2.2.2.1, va_recv C.2.2.2.2.2.1 hP hrc hre, sg_preP_of C hPp hDp hS⟩ rfl hlen hh.1 rfl (lv_room hroom) hdg hcs) hS (fun q _ h => hF q h) hF (fun u t H1 locs1 ht hvm hw hB hz1 hk1 hS1 => ?_)
  obtain ⟨b1, b2⟩ := sg_backP C hp2 hPp hDp hS ht hB hk1
  exact kk H1 locs1 ls b1 b2 hS1 hh
theorem g_callSUi (n : Nat) (C : sg_C p R s m args meth c cc nL own Ts D Y Z A) {y : MethodName} {bytes : ByteArray} {maxL n0 index : Nat} {ret : Option FieldType} {ws ws' : List Cond} {fr lo : Nat} {As : List Value} {wc w1 w2 : va_W} {C2 : String} {b : Nat} {q0 ci : Nat} {T : u_T} {N : Nat} {fs : List Value} {r : Int32} (hM : sg_MI l y ws fr lo D Y Z (.ref b :: As) wc r w1) (hG : GoodIn Ts (va_wsSU own index y ws)) (hd : y.name ≠ "<init>" ∧ (parseMethodDescriptor y.desc).map (fun d => d.parameters.length) = some n0) (hw0 : ws = Cond.code y bytes maxL ret :: ws') (hR : fr + 1 ≤ R.frames ∧ 8 + (maxL + 11) + lo ≤ R.locals) (hrc : vwCl[ci]? = some (C2, T, N)) (hre : w[q0]? = some (b, .inr (ci, fs))) (hcut : sg_cutP w wc w1 w2) (hlen : As.length = n0) (hroom : (st.map fun v => v.category).sum ≤ 8) (hcs : cells ≤ R.cells ∧ slots ≤ R.slots) (hdg : decode cc pc = .ok (.invokespecial index, 3)) (hn : pc + 3 = n) {stk : List Value} (hstk : stk = As.reverse ++ .ref b :: st) (kk : sg_G p l e R s m args below meth c D A nL cells slots Q n lv (.int r :: st) w2) : sg_G p l e R s m args below meth c D A nL cells slots Q pc lv stk w := by
  subst hn
  subst hstk
  intro H locs ls hP hD hS hh
  obtain ⟨wr, hp1, hp2⟩ := hcut
  have hPp := sg_permP hp1 hP
  have hDp := sg_permD hp1 hD
  have hF : ∀ q, va_A wc H.size q → A q := sg_cutP_free hDp (fun q h => C.2.2.2.2.2.2.1 q (Nat.le_trans hS.1 h))
  refine va_calli (va_runSU (C := C2) (b := b) (As := As) (rest := st) (C.2.2.2.2.2.1.1 ci _ hrc).2 ⟨C.1, C.2.1, C.2.2.1, C.2.2.2.1, C.2.2.2.2.1⟩ (hM H.size) (va_cwSU n0 C.2.2.2.2.1 hG hw0 rfl rfl hd hR) ⟨sg_blind C.2.2.2.2.2.2.2.1, va_recv C.2.2.2.2.2.1 hP hrc hre, sg_preP_of C hPp hDp hS⟩ rfl hlen hh.1 rfl (lv_room hroom) hdg hcs) hS (fun q _ h => hF q h) hF (fun r1 u t H1 locs1 ht hvm hw hB hz1 hk1 hS1 => ?_)
  have hw : r1 = r := hw
  subst hw
  obtain ⟨b1, b2⟩ := sg_backP C hp2 hPp hDp hS ht hB hk1
  exact kk H1 locs1 ls b1 b2 hS1 hh
theorem g_callSUv (n : Nat) (C : sg_C p R s m args meth c cc nL own Ts D Y Z A) {y : MethodName} {bytes : ByteArray} {maxL n0 index : Nat} {ret : Option FieldType} {ws ws' : List Cond} {fr lo : Nat} {As : List Value} {wc w1 w2 : va_W} {C2 : String} {b : Nat} {q0 ci : Nat} {T : u_T} {N : Nat} {fs : List Value} (hM : sg_MV l y ws fr lo D Y Z (.ref b :: As) wc w1) (hG : GoodIn Ts (va_wsSU own index y ws)) (hd : y.name ≠ "<init>" ∧ (parseMethodDescriptor y.desc).map (fun d => d.parameters.length) = some n0) (hw0 : ws = Cond.code y bytes maxL ret :: ws') (hR : fr + 1 ≤ R.frames ∧ 8 + (maxL + 11) + lo ≤ R.locals) (hrc : vwCl[ci]? = some (C2, T, N)) (hre : w[q0]? = some (b, .inr (ci, fs))) (hcut : sg_cutP w wc w1 w2) (hlen : As.length = n0) (hroom : (st.map fun v => v.category).sum ≤ 8) (hcs : cells ≤ R.cells ∧ slots ≤ R.slots) (hdg : decode cc pc = .ok (.invokespecial index, 3)) (hn : pc + 3 = n) {stk : List Value} (hstk : stk = As.reverse ++ .ref b :: st) (kk : sg_G p l e R s m args below meth c D A nL cells slots Q n lv st w2) : sg_G p l e R s m args below meth c D A nL cells slots Q pc lv stk w := by
  subst hn
  subst hstk
  intro H locs ls hP hD hS hh
  obtain ⟨wr, hp1, hp2⟩ := hcut
  have hPp := sg_permP hp1 hP
  have hDp := sg_permD hp1 hD
  have hF : ∀ q, va_A wc H.size q → A q := sg_cutP_free hDp (fun q h => C.2.2.2.2.2.2.1 q (Nat.le_trans hS.1 h))
  refine va_callv (va_runSU (C := C2) (b := b) (As := As) (rest := st) (C.2.2.2.2.2.1.1 ci _ hrc).2 ⟨C.1, C.2.1, C.2.2.1, C.2.2.2.1, C.2.2.2.2.1⟩ (hM H.size) (va_cwSU n0 C.2.2.2.2.1 hG hw0 rfl rfl hd hR) ⟨sg_blind C.2.2.2.2.2.2.2.1, va_recv C.2.2.2.2.2.1 hP hrc hre, sg_preP_of C hPp hDp hS⟩ rfl hlen hh.1 rfl (lv_room hroom) hdg hcs) hS (fun q _ h => hF q h) hF (fun u t H1 locs1 ht hvm hw hB hz1 hk1 hS1 => ?_)
  obtain ⟨b1, b2⟩ := sg_backP C hp2 hPp hDp hS ht hB hk1
  exact kk H1 locs1 ls b1 b2 hS1 hh
theorem g_callKi (n : Nat) (C : sg_C p R s m args meth c cc nL own Ts D Y Z A) {y : MethodName} {bytes : ByteArray} {maxL n0 index : Nat} {ret : Option FieldType} {ws ws' : List Cond} {fr lo : Nat} {As : List Value} {wc w1 w2 : va_W} {C2 : String} {b : Nat} {r : Int32} (hM : sg_MI l y ws fr lo D Y Z (.ref b :: As) wc r w1) (hG : GoodIn Ts (wsV own index C2 y ws)) (hd : y.cls = C2 ∧ y.cls ≠ "java/lang/invoke/MethodHandle" ∧ y.cls ≠ "java/lang/invoke/VarHandle" ∧ (parseMethodDescriptor y.desc).map (fun d => d.parameters.length) = some n0) (hw0 : ws = Cond.code y bytes maxL ret :: ws') (hR : fr + 1 ≤ R.frames ∧ 8 + (maxL + 11) + lo ≤ R.locals) (hrecv : ∀ (H : Heap) (locs : List Loc), va_S A s.heap H locs → ∃ cell : Cell, H[b]? = some cell ∧ cell.vm.isStatics = false ∧ s.vm.findClass C2 = some cell.cls) (hcut : sg_cutP w wc w1 w2) (hlen : As.length = n0) (hroom : (st.map fun v => v.category).sum ≤ 8) (hcs : cells ≤ R.cells ∧ slots ≤ R.slots) (hdg : decode cc pc = .ok (.invokevirtual index, 3)) (hn : pc + 3 = n) {stk : List Value} (hstk : stk = As.reverse ++ .ref b :: st) (kk : sg_G p l e R s m args below meth c D A nL cells slots Q n lv (.int r :: st) w2) : sg_G p l e R s m args below meth c D A nL cells slots Q pc lv stk w := by
  subst hn
  subst hstk
  intro H locs ls hP hD hS hh
  obtain ⟨wr, hp1, hp2⟩ := hcut
  have hPp := sg_permP hp1 hP
  have hDp := sg_permD hp1 hD
  have hF : ∀ q, va_A wc H.size q → A q := sg_cutP_free hDp (fun q h => C.2.2.2.2.2.2.1 q (Nat.le_trans hS.1 h))
  refine va_calli (va_runV (C := C2) (b := b) (As := As) (rest := st) ⟨C.1, C.2.1, C.2.2.1, C.2.2.2.1, C.2.2.2.2.1⟩ (hM H.size) (cwV n0 C.2.2.2.2.1 hG hw0 rfl rfl hd hR) ⟨sg_blind C.2.2.2.2.2.2.2.1, hrecv H locs hS, sg_preP_of C hPp hDp hS⟩ rfl hlen hh.1 rfl (lv_room hroom) hdg hcs) hS (fun q _ h => hF q h) hF (fun r1 u t H1 locs1 ht hvm hw hB hz1 hk1 hS1 => ?_)
  have hw : r1 = r := hw
  subst hw
  obtain ⟨b1, b2⟩ := sg_backP C hp2 hPp hDp hS ht hB hk1
  exact kk H1 locs1 ls b1 b2 hS1 hh
theorem g_getsW (n : Nat) (C : sg_C p R s m args meth c cc nL own Ts D Y Z A) {C1 nm ds ref : String} {v : Value} {index : Nat} (hZ : va_Z C1 nm ds v A s s.heap) (hlm : Cond.fieldLink own index ref nm ds ∈ Ts) (hsame : C1 = ref) (hdg : decode cc pc = .ok (.getstatic index, 3)) (hn : pc + 3 = n) (kk : sg_G p l e R s m args below meth c D A nL cells slots Q n lv (v :: st) w) : sg_G p l e R s m args below meth c D A nL cells slots Q pc lv st w := by
  subst hn
  exact fun H locs ls hP hD hS hh => va_gets C.1 C.2.1 hZ hS C.2.2.2.1 (C.2.2.2.2.1 _ hlm) (fun _ h9 => by rw [← hsame]; exact h9) hdg (kk H locs ls hP hD hS hh)
theorem g_tbld (n : Nat) (C : sg_C p R s m args meth c cc nL own Ts D Y Z A) {t N : Nat} {f : Nat → Value} {i : Int32} (v0 : Value) (hT : va_T .byte t N f A s s.heap) (h1 : sg_in i N = true) (hv0 : f i.toNatClampNeg = v0) (hdg : decode cc pc = .ok (.baload, 1)) (hn : pc + 1 = n) (kk : sg_G p l e R s m args below meth c D A nL cells slots Q n lv (v0 :: st) w) : sg_G p l e R s m args below meth c D A nL cells slots Q pc lv (.int i :: .ref t :: st) w := by
  subst hn
  exact fun H locs ls hP hD hS hh => va_tb C.1 C.2.1 hT hS (sg_inE h1) hv0 hdg (kk H locs ls hP hD hS hh)
theorem g_tblen (n : Nat) (C : sg_C p R s m args meth c cc nL own Ts D Y Z A) {t N : Nat} {f : Nat → Value} (v0 : Int32) (hT : va_T .byte t N f A s s.heap) (hv0 : Int32.ofNat N = v0) (hdg : decode cc pc = .ok (.arraylength, 1)) (hn : pc + 1 = n) (kk : sg_G p l e R s m args below meth c D A nL cells slots Q n lv (.int v0 :: st) w) : sg_G p l e R s m args below meth c D A nL cells slots Q pc lv (.ref t :: st) w := by
  subst hn
  exact fun H locs ls hP hD hS hh => va_tlen C.1 C.2.1 hT hS hv0 hdg (kk H locs ls hP hD hS hh)
theorem g_gets0 (n : Nat) (C : sg_C p R s m args meth c cc nL own Ts D Y Z A) {C1 nm ds ref : String} {index q : Nat} {v : Value} (hE : va_OF C1 nm ds v q A s s.heap) (hlm : Cond.fieldLink own index ref nm ds ∈ Ts) (hsame : C1 = ref) (hdg : decode cc pc = .ok (.getfield index, 3)) (hn : pc + 3 = n) (kk : sg_G p l e R s m args below meth c D A nL cells slots Q n lv (v :: st) w) : sg_G p l e R s m args below meth c D A nL cells slots Q pc lv (.ref q :: st) w := by
  subst hn
  exact fun H locs ls hP hD hS hh => vk_getf C.1 C.2.1 hE hS C.2.2.2.1 (C.2.2.2.2.1 _ hlm) (fun _ h9 => by rw [← hsame]; exact h9) hdg (kk H locs ls hP hD hS hh)
theorem g_ldcS (n : Nat) (C : sg_C p R s m args meth c cc nL own Ts D Y Z A) {tx : String} {index q : Nat} (hR : vk_R own index tx q s) (hdg : decode cc pc = .ok (.ldc index, 2)) (hn : pc + 2 = n) (kk : sg_G p l e R s m args below meth c D A nL cells slots Q n lv (.ref q :: st) w) : sg_G p l e R s m args below meth c D A nL cells slots Q pc lv st w := by
  subst hn
  exact fun H locs ls hP hD hS hh => va_ldcS C.1 C.2.1 C.2.2.2.1 hR hdg (kk H locs ls hP hD hS hh)
theorem g_bast (n : Nat) (C : sg_C p R s m args meth c cc nL own Ts D Y Z A) {a N : Nat} {f : Nat → Int32} {i z : Int32} {w2 : va_W} (q0 : Nat) (hdg : decode cc pc = .ok (.bastore, 1)) (hn : pc + 1 = n) (he : w[q0]? = some (a, .inl (Y 1, N, .inl f))) (h1 : sg_in i N = true) (hw : w.set q0 (a, .inl (Y 1, N, .inl (upd f i.toNatClampNeg z.toInt8.toInt32))) = w2) (kk : sg_G p l e R s m args below meth c D A nL cells slots Q n lv st w2) : sg_G p l e R s m args below meth c D A nL cells slots Q pc lv (.int z :: .int i :: .ref a :: st) w := by
  subst hn
  subst hw
  intro H locs ls hP hD hS hh
  refine va_bast C.1 C.2.1 C.2.2.2.2.2.1 hP hD hS q0 1 he rfl (sg_inE h1) hdg (fun H1 locs1 hP1 hD1 hS1 => ?_)
  rw [vp_nar_byte] at hP1 hD1
  exact kk H1 locs1 ls hP1 hD1 hS1 hh
theorem g_aload_nZ (n : Nat) (C : sg_C p R s m args meth c cc nL own Ts D Y Z A) {k : Fin 4} {i : Nat} (hdg : decode cc pc = .ok (.aload_n k, 1)) (hn : pc + 1 = n) (hi : (k : Nat) = i) (hl : sg_lk lv i = some .null) (kk : sg_G p l e R s m args below meth c D A nL cells slots Q n lv (.null :: st) w) : sg_G p l e R s m args below meth c D A nL cells slots Q pc lv st w := by
  subst hn
  exact fun H locs ls hP hD hS hh => lv_aload_nN C.1 C.2.1 hdg hi (sg_lk_has hh hl) (kk H locs ls hP hD hS hh)
end SGJ
