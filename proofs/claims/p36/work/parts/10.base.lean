/-! BASE: the state of a system as numbers by cell and place; one judgement 'sg_G' from which the walk goes on; a row an instruction over it -/
abbrev sg_S : Type := Nat → Nat → Int32
def sg_up (σ : sg_S) (p k : Nat) (v : Int32) : sg_S := fun q => cond (Nat.beq q p) (upd (σ p) k v) (σ q)
/-- the cells of a block as τ has them, the others as σ -/
def sg_mg (b : Nat → Bool) (σ τ : sg_S) : sg_S := fun q => cond (b q) (τ q) (σ q)
/-- a callee's one block of n cells from o on, as τ has them -/
def sg_m1 (o n : Nat) (σ τ : sg_S) : sg_S := fun q => cond (Nat.ble o q) (cond (Nat.blt q (o + n)) (τ (q - o)) (σ q)) (σ q)
/-- a callee's two blocks -/
def sg_m2 (o n o2 n2 : Nat) (σ τ : sg_S) : sg_S := fun q => cond (Nat.ble o q && Nat.blt q (o + n)) (τ (q - o)) (cond (Nat.ble o2 q && Nat.blt q (o2 + n2)) (τ (n + (q - o2))) (σ q))
/-- a row of an array, as a whole -/
def sg_ur (σ : sg_S) (p : Nat) (f : Nat → Int32) : sg_S := fun q => cond (Nat.beq q p) f (σ q)
abbrev sg_e1 {α : Type} (o : Nat) (f : Nat → α) : Nat → α := fun q => f (o + q)
abbrev sg_e2 {α : Type} (n o o2 : Nat) (f : Nat → α) : Nat → α := fun q => cond (Nat.blt q n) (f (o + q)) (f (o2 + (q - n)))
def sg_let {α β : Type} (x : α) (f : α → Option β) : Option β := f x
def sg_bnd {α β : Type} (o : Option α) (f : α → Option β) : Option β := match o with
  | none => none
  | some x => f x
def sg_bnd2 {α γ β : Type} (o : Option (α × γ)) (f : α → γ → Option β) : Option β := match o with
  | none => none
  | some x => f x.1 x.2
def sg_grd {β : Type} (b : Bool) (x : Option β) : Option β := cond b x none
def sg_in (i : Int32) (n : Nat) : Bool := decide (0 ≤ i.toInt) && decide (i.toInt < (n : Int))
def sg_01 (i : Int32) : Bool := decide (i = 0) || decide (i = 1)
theorem sg_letE {α β : Type} {x : α} {f : α → Option β} {v : β} (h : sg_let x f = some v) : ∃ y, y = x ∧ f y = some v := ⟨x, rfl, h⟩
theorem sg_bndE {α β : Type} {o : Option α} {f : α → Option β} {v : β} (h : sg_bnd o f = some v) : ∃ y, o = some y ∧ f y = some v := by
  cases o with
  | none => cases h
  | some y => exact ⟨y, rfl, h⟩
theorem sg_bnd2E {α γ β : Type} {o : Option (α × γ)} {f : α → γ → Option β} {v : β} (h : sg_bnd2 o f = some v) : ∃ (y : α) (z : γ), o = some (y, z) ∧ f y z = some v := by
  cases o with
  | none => cases h
  | some y => exact ⟨y.1, y.2, rfl, h⟩
theorem sg_grdE {β : Type} {b : Bool} {x : Option β} {v : β} (h : sg_grd b x = some v) : b = true ∧ x = some v := by
  cases b with
  | false => cases h
  | true => exact ⟨rfl, h⟩
theorem sg_someE {α : Type} {x y : α} (h : some x = some y) : y = x := (Option.some.inj h).symm
theorem sg_pairE {α β : Type} {x y : α} {z w : β} (h : some (x, z) = some (y, w)) : y = x ∧ w = z := by
  cases h
  exact ⟨rfl, rfl⟩
theorem sg_inE {i : Int32} {n : Nat} (h : sg_in i n = true) : vp_in i n := by
  unfold sg_in at h
  simp only [Bool.and_eq_true, decide_eq_true_eq] at h
  exact vp_in_iff.mpr h
theorem sg_01E {i : Int32} (h : sg_01 i = true) : i = 0 ∨ i = 1 := by
  unfold sg_01 at h
  simpa using h
theorem sg_01n {i : Int32} (h : sg_01 i = true) : narrow .boolean (.int i) = .int i ∧ fits .boolean (.int i) = true := by
  rcases sg_01E h with rfl | rfl <;> exact ⟨by decide, by decide⟩
/-- the classes of the arrays: 0 int[], 1 byte[], 2 Realm[], 3 int[][] -/
abbrev sg_T (Y : Nat → ClassId) : List (ClassId × FieldType) := [(Y 0, .int), (Y 1, .byte), (Y 2, .object "WeatherMinistry$Realm"), (Y 3, .array .int)]

/-- what is known of statics and of links among nest mates: carried over what is written elsewhere -/
def sg_sun (j : Nat) : Int32 := ([1, 1, 2, 3, 4, 5, 5, 4, 3, 2, 1, 1] : List Int32).getD j 0
def sg_Zn (U : State) : Prop := va_Nw (.methodLinkNest RX6 24 yX7_isTown RX7) U ∧ va_Nw (.methodLinkNest RX3 65 yX7_isTown RX7) U ∧ va_Nw (.methodLinkNest RX3 80 yX7_sumOf RX7) U ∧ va_Nw (.fieldLinkNest RX3 117 RX7 "SUN_OF_MONTHS" "[I" RX7) U
def sg_Zs (A : Nat → Prop) (U : State) (H : Heap) : Prop := ∃ t : Nat, va_Z RX7 "SUN_OF_MONTHS" "[I" (.ref t) A U H ∧ va_T .int t 12 (fun j => .int (sg_sun j)) A U H
def sg_Zok (Z : (Nat → Prop) → State → Heap → Prop) : Prop := (∀ (A : Nat → Prop) (u U : State) (H : Heap), u.WarmedH U.vm → Z A u H → Z A U H) ∧ (∀ (A : Nat → Prop) (U : State) (H H1 : Heap), Z A U H → (∀ a : Nat, a < H.size → ¬ A a → H1[a]? = H[a]?) → Z A U H1) ∧ (∀ (A B : Nat → Prop) (U : State) (H : Heap), Z A U H → (∀ q, B q → A q) → Z B U H) ∧ (∀ (A : Nat → Prop) (U : State) (H : Heap), Z A U H → sg_Zn U) ∧ (∀ (A : Nat → Prop) (U : State) (H : Heap), Z A U H → sg_Zs A U H)
def sg_pre (D : va_G) (Y : Nat → ClassId) (Z : (Nat → Prop) → State → Heap → Prop) (w : va_W) (sz : Nat) (U : State) : Prop := U.heap.size = sz ∧ va_P D vwCl w U.heap ∧ va_K D vwCl (sg_T Y) U ∧ va_D (fun _ => True) w ∧ Z (va_A w sz) U U.heap
def sg_post (D : va_G) (Y : Nat → ClassId) (w w' : va_W) (sz : Nat) (t : State) : Prop := va_P D vwCl w' t.heap ∧ va_K D vwCl (sg_T Y) t ∧ va_D (va_A w sz) w'
/-- contracts of methods that make no cells: int answer; void -/
def sg_MI (l : Launch) (y : MethodName) (ws : List Cond) (fr lo : Nat) (D : va_G) (Y : Nat → ClassId) (Z : (Nat → Prop) → State → Heap → Prop) (av : List Value) (w : va_W) (r : Int32) (w' : va_W) : Prop := ∀ sz : Nat, Met l y ws ({ frames := fr, cells := 0, slots := 0, locals := lo }) (va_Pc av (sg_pre D Y Z w sz)) (va_Qi (fun (r2 : Int32) (_ : Unit) => r2 = r) (fun _ => sg_post D Y w w' sz) (va_A w sz)) 0 0 (va_A w sz)
def sg_MV (l : Launch) (y : MethodName) (ws : List Cond) (fr lo : Nat) (D : va_G) (Y : Nat → ClassId) (Z : (Nat → Prop) → State → Heap → Prop) (av : List Value) (w : va_W) (w' : va_W) : Prop := ∀ sz : Nat, Met l y ws ({ frames := fr, cells := 0, slots := 0, locals := lo }) (va_Pc av (sg_pre D Y Z w sz)) (va_Qv (fun (_ : Unit) => True) (fun _ => sg_post D Y w w' sz) (va_A w sz)) 0 0 (va_A w sz)
def sg_C (p : Program) (R : Room) (s : State) (m : MethodId) (args : Array Value) (meth : Method) (c : Code) (cc : ByteArray) (nL : Nat) (own : String) (Ts : List Cond) (D : va_G) (Y : Nat → ClassId) (Z : (Nat → Prop) → State → Heap → Prop) (A : Nat → Prop) : Prop :=
  p.tables.exec = Jvm.exec ∧ c.code = cc ∧ c.maxLocals = nL ∧ s.vm.findClass own = some m.cls ∧ (∀ w ∈ Ts, w.before args s = true) ∧ va_K D vwCl (sg_T Y) s ∧ (∀ q, s.heap.size ≤ q → A q) ∧ sg_Zok Z ∧ Z A s s.heap ∧ meth.locks = false
def sg_G (p : Program) (l : Launch) (e : Env) (R : Room) (s : State) (m : MethodId) (args : Array Value) (below : List Frame) (meth : Method) (c : Code) (D : va_G) (A : Nat → Prop) (nL : Nat) (cells slots : Nat) (Q : State → Prop) (pc : Nat) (lv : List (Nat × Value)) (st : List Value) (w : va_W) : Prop :=
  ∀ (H : Heap) (locs : List Loc) (ls : Array Slot), va_P D vwCl w H → va_D A w → va_S A s.heap H locs → lv_has ls nL lv → W p l e R s m args below meth c H locs cells slots Q (F0 m pc ls st)
def sg_lk : List (Nat × Value) → Nat → Option Value
  | [], _ => none
  | q :: r, i => cond (Nat.beq q.1 i) (some q.2) (sg_lk r i)
theorem sg_lk_has {ls : Array Slot} {nL : Nat} {lv : List (Nat × Value)} {i : Nat} {v : Value} (h : lv_has ls nL lv) (hl : sg_lk lv i = some v) : ls[i]? = some (.val v) := by
  have key : ∀ (l : List (Nat × Value)), sg_lk l i = some v → (i, v) ∈ l := by
    intro l
    induction l with
    | nil => intro h; cases h
    | cons q r ih =>
      intro h
      unfold sg_lk at h
      cases hb : Nat.beq q.1 i with
      | true =>
        rw [hb] at h
        have e1 : q.1 = i := Nat.eq_of_beq_eq_true hb
        have e2 : q.2 = v := Option.some.inj h
        subst e1; subst e2
        exact List.mem_cons_self
      | false =>
        rw [hb] at h
        exact List.mem_cons_of_mem _ (ih h)
  exact h.2.2 (i, v) (key lv hl)
/-- a local that is written: all of category 1 -/
def sg_st : List (Nat × Value) → Nat → Value → List (Nat × Value)
  | [], i, v => [(i, v)]
  | q :: r, i, v => cond (Nat.beq q.1 i) ((i, v) :: r) (q :: sg_st r i v)
section SGA
variable {p : Program} {l : Launch} {e : Env} {R : Room} {s : State} {m : MethodId} {args : Array Value} {below : List Frame} {meth : Method} {c : Code} {D : va_G} {Y : Nat → ClassId} {Z : (Nat → Prop) → State → Heap → Prop} {A : Nat → Prop} {nL : Nat} {cells slots : Nat} {Q : State → Prop} {cc : ByteArray} {own : String} {Ts : List Cond} {pc : Nat} {lv : List (Nat × Value)} {st : List Value} {w : va_W} {x y : Int32}
theorem g_lv {lv2 : List (Nat × Value)} (ks : List Nat) (h : lv_pick lv ks = lv2) (kk : sg_G p l e R s m args below meth c D A nL cells slots Q pc lv2 st w) : sg_G p l e R s m args below meth c D A nL cells slots Q pc lv st w :=
  fun H locs ls hP hD hS hl => kk H locs ls hP hD hS (lv_sub hl ks h)
theorem g_top {v x : Int32} (h : v = x) (kk : sg_G p l e R s m args below meth c D A nL cells slots Q pc lv (.int v :: st) w) : sg_G p l e R s m args below meth c D A nL cells slots Q pc lv (.int x :: st) w := h ▸ kk
theorem g_wl {w2 : va_W} (h : w = w2) (kk : sg_G p l e R s m args below meth c D A nL cells slots Q pc lv st w2) : sg_G p l e R s m args below meth c D A nL cells slots Q pc lv st w := h ▸ kk
theorem g_iload_n (n : Nat) (C : sg_C p R s m args meth c cc nL own Ts D Y Z A) {k : Fin 4} {i : Nat} (hdg : decode cc pc = .ok (.iload_n k, 1)) (hn : pc + 1 = n) (hi : (k : Nat) = i) (hl : sg_lk lv i = some (.int x)) (kk : sg_G p l e R s m args below meth c D A nL cells slots Q n lv (.int x :: st) w) : sg_G p l e R s m args below meth c D A nL cells slots Q pc lv st w := by
  subst hn
  exact fun H locs ls hP hD hS hh => lv_iload_n C.1 C.2.1 hdg hi (sg_lk_has hh hl) (kk H locs ls hP hD hS hh)
theorem g_iload (n : Nat) (C : sg_C p R s m args meth c cc nL own Ts D Y Z A) {i : Nat} (hdg : decode cc pc = .ok (.iload i, 2)) (hn : pc + 2 = n) (hl : sg_lk lv i = some (.int x)) (kk : sg_G p l e R s m args below meth c D A nL cells slots Q n lv (.int x :: st) w) : sg_G p l e R s m args below meth c D A nL cells slots Q pc lv st w := by
  subst hn
  exact fun H locs ls hP hD hS hh => lv_iload C.1 C.2.1 hdg (sg_lk_has hh hl) (kk H locs ls hP hD hS hh)
theorem g_aload_n (n : Nat) (C : sg_C p R s m args meth c cc nL own Ts D Y Z A) {k : Fin 4} {i a : Nat} (hdg : decode cc pc = .ok (.aload_n k, 1)) (hn : pc + 1 = n) (hi : (k : Nat) = i) (hl : sg_lk lv i = some (.ref a)) (kk : sg_G p l e R s m args below meth c D A nL cells slots Q n lv (.ref a :: st) w) : sg_G p l e R s m args below meth c D A nL cells slots Q pc lv st w := by
  subst hn
  exact fun H locs ls hP hD hS hh => lv_aload_n C.1 C.2.1 hdg hi (sg_lk_has hh hl) (kk H locs ls hP hD hS hh)
theorem g_aload (n : Nat) (C : sg_C p R s m args meth c cc nL own Ts D Y Z A) {i a : Nat} (hdg : decode cc pc = .ok (.aload i, 2)) (hn : pc + 2 = n) (hl : sg_lk lv i = some (.ref a)) (kk : sg_G p l e R s m args below meth c D A nL cells slots Q n lv (.ref a :: st) w) : sg_G p l e R s m args below meth c D A nL cells slots Q pc lv st w := by
  subst hn
  exact fun H locs ls hP hD hS hh => lv_aload C.1 C.2.1 hdg (sg_lk_has hh hl) (kk H locs ls hP hD hS hh)
theorem g_iconst (n : Nat) (C : sg_C p R s m args meth c cc nL own Ts D Y Z A) {z : Int} (v : Int32) (hdg : decode cc pc = .ok (.iconst z, 1)) (hn : pc + 1 = n) (hv : Int32.ofInt z = v) (kk : sg_G p l e R s m args below meth c D A nL cells slots Q n lv (.int v :: st) w) : sg_G p l e R s m args below meth c D A nL cells slots Q pc lv st w := by
  subst hn
  exact fun H locs ls hP hD hS hh => lv_iconst C.1 C.2.1 hdg hv (kk H locs ls hP hD hS hh)
theorem g_bipush (n : Nat) (C : sg_C p R s m args meth c cc nL own Ts D Y Z A) {z : Int} (v : Int32) (hdg : decode cc pc = .ok (.bipush z, 2)) (hn : pc + 2 = n) (hv : (Int8.ofInt z).toInt32 = v) (kk : sg_G p l e R s m args below meth c D A nL cells slots Q n lv (.int v :: st) w) : sg_G p l e R s m args below meth c D A nL cells slots Q pc lv st w := by
  subst hn
  exact fun H locs ls hP hD hS hh => lv_bipush C.1 C.2.1 hdg hv (kk H locs ls hP hD hS hh)
theorem g_sipush (n : Nat) (C : sg_C p R s m args meth c cc nL own Ts D Y Z A) {z : Int} (v : Int32) (hdg : decode cc pc = .ok (.sipush z, 3)) (hn : pc + 3 = n) (hv : (Int16.ofInt z).toInt32 = v) (kk : sg_G p l e R s m args below meth c D A nL cells slots Q n lv (.int v :: st) w) : sg_G p l e R s m args below meth c D A nL cells slots Q pc lv st w := by
  subst hn
  exact fun H locs ls hP hD hS hh => lv_sipush C.1 C.2.1 hdg hv (kk H locs ls hP hD hS hh)
theorem sg_store {ls' : Array Slot} {i : Nat} {v : Value} {lv2 : List (Nat × Value)} (ks : List Nat) (hc : lv_pick ((i, v) :: lv.filter (fun q => !(q.1 == i) && !(q.1 + 1 == i && q.2.category == 2))) ks = lv2) (h : lv_has ls' nL ((i, v) :: lv.filter (fun q => !(q.1 == i) && !(q.1 + 1 == i && q.2.category == 2)))) : lv_has ls' nL lv2 := lv_sub h ks hc
theorem g_istore_n (n : Nat) (C : sg_C p R s m args meth c cc nL own Ts D Y Z A) {k : Fin 4} {i : Nat} (lv2 : List (Nat × Value)) (hdg : decode cc pc = .ok (.istore_n k, 1)) (hn : pc + 1 = n) (hi : (k : Nat) = i) (hi2 : i < nL) (hl : (i, Value.int x) :: lv.filter (fun q => !(q.1 == i) && !(q.1 + 1 == i && q.2.category == 2)) = lv2) (kk : sg_G p l e R s m args below meth c D A nL cells slots Q n lv2 st w) : sg_G p l e R s m args below meth c D A nL cells slots Q pc lv (.int x :: st) w := by
  subst hn
  exact fun H locs ls hP hD hS hh => lv_istore_n C.1 C.2.1 hdg hi hh hi2 hl (fun ls2 h2 => kk H locs ls2 hP hD hS h2)
theorem g_istore (n : Nat) (C : sg_C p R s m args meth c cc nL own Ts D Y Z A) {i : Nat} (lv2 : List (Nat × Value)) (hdg : decode cc pc = .ok (.istore i, 2)) (hn : pc + 2 = n) (hi2 : i < nL) (hl : (i, Value.int x) :: lv.filter (fun q => !(q.1 == i) && !(q.1 + 1 == i && q.2.category == 2)) = lv2) (kk : sg_G p l e R s m args below meth c D A nL cells slots Q n lv2 st w) : sg_G p l e R s m args below meth c D A nL cells slots Q pc lv (.int x :: st) w := by
  subst hn
  exact fun H locs ls hP hD hS hh => lv_istore C.1 C.2.1 hdg hh hi2 hl (fun ls2 h2 => kk H locs ls2 hP hD hS h2)
theorem g_astore_n (n : Nat) (C : sg_C p R s m args meth c cc nL own Ts D Y Z A) {k : Fin 4} {i a : Nat} (lv2 : List (Nat × Value)) (hdg : decode cc pc = .ok (.astore_n k, 1)) (hn : pc + 1 = n) (hi : (k : Nat) = i) (hi2 : i < nL) (hl : (i, Value.ref a) :: lv.filter (fun q => !(q.1 == i) && !(q.1 + 1 == i && q.2.category == 2)) = lv2) (kk : sg_G p l e R s m args below meth c D A nL cells slots Q n lv2 st w) : sg_G p l e R s m args below meth c D A nL cells slots Q pc lv (.ref a :: st) w := by
  subst hn
  exact fun H locs ls hP hD hS hh => lv_astore_n C.1 C.2.1 hdg hi hh hi2 hl (fun ls2 h2 => kk H locs ls2 hP hD hS h2)
theorem g_astore (n : Nat) (C : sg_C p R s m args meth c cc nL own Ts D Y Z A) {i a : Nat} (lv2 : List (Nat × Value)) (hdg : decode cc pc = .ok (.astore i, 2)) (hn : pc + 2 = n) (hi2 : i < nL) (hl : (i, Value.ref a) :: lv.filter (fun q => !(q.1 == i) && !(q.1 + 1 == i && q.2.category == 2)) = lv2) (kk : sg_G p l e R s m args below meth c D A nL cells slots Q n lv2 st w) : sg_G p l e R s m args below meth c D A nL cells slots Q pc lv (.ref a :: st) w := by
  subst hn
  exact fun H locs ls hP hD hS hh => lv_astore C.1 C.2.1 hdg hh hi2 hl (fun ls2 h2 => kk H locs ls2 hP hD hS h2)
theorem g_iinc (n : Nat) (C : sg_C p R s m args meth c cc nL own Ts D Y Z A) {i : Nat} {z : Int} (k : Nat) (v : Int32) (lv2 : List (Nat × Value)) (hdg : decode cc pc = .ok (.iinc i z, 3)) (hn : pc + 3 = n) (hk : lv[k]? = some (i, .int x)) (hv : x + Int32.ofInt z = v) (hi2 : i < nL) (hl : (i, Value.int v) :: lv.filter (fun q => !(q.1 == i) && !(q.1 + 1 == i && q.2.category == 2)) = lv2) (kk : sg_G p l e R s m args below meth c D A nL cells slots Q n lv2 st w) : sg_G p l e R s m args below meth c D A nL cells slots Q pc lv st w := by
  subst hn
  exact fun H locs ls hP hD hS hh => lv_iinc C.1 C.2.1 hdg hh hk hv hi2 hl (fun ls2 h2 => kk H locs ls2 hP hD hS h2)
theorem g_goto (t : Nat) (C : sg_C p R s m args meth c cc nL own Ts D Y Z A) {off : Int} (hdg : decode cc pc = .ok (.goto off, 3)) (ht : (pc : Int) + off = (t : Int)) (kk : sg_G p l e R s m args below meth c D A nL cells slots Q t lv st w) : sg_G p l e R s m args below meth c D A nL cells slots Q pc lv st w :=
  fun H locs ls hP hD hS hh => lv_goto C.1 C.2.1 hdg ht (kk H locs ls hP hD hS hh)
theorem g_dup (n : Nat) (C : sg_C p R s m args meth c cc nL own Ts D Y Z A) {va : Value} (hdg : decode cc pc = .ok (.dup, 1)) (hn : pc + 1 = n) (hv : va.category = 1) (kk : sg_G p l e R s m args below meth c D A nL cells slots Q n lv (va :: va :: st) w) : sg_G p l e R s m args below meth c D A nL cells slots Q pc lv (va :: st) w := by
  subst hn
  exact fun H locs ls hP hD hS hh => lv_dup C.1 C.2.1 hdg hv (kk H locs ls hP hD hS hh)
theorem g_pop (n : Nat) (C : sg_C p R s m args meth c cc nL own Ts D Y Z A) {va : Value} (hdg : decode cc pc = .ok (.pop, 1)) (hn : pc + 1 = n) (hv : va.category = 1) (kk : sg_G p l e R s m args below meth c D A nL cells slots Q n lv st w) : sg_G p l e R s m args below meth c D A nL cells slots Q pc lv (va :: st) w := by
  subst hn
  exact fun H locs ls hP hD hS hh => lv_pop C.1 C.2.1 hdg hv (kk H locs ls hP hD hS hh)
theorem g_dup_x1 (n : Nat) (C : sg_C p R s m args meth c cc nL own Ts D Y Z A) {va vb : Value} (hdg : decode cc pc = .ok (.dup_x1, 1)) (hn : pc + 1 = n) (hv : va.category = 1) (hv2 : vb.category = 1) (kk : sg_G p l e R s m args below meth c D A nL cells slots Q n lv (va :: vb :: va :: st) w) : sg_G p l e R s m args below meth c D A nL cells slots Q pc lv (va :: vb :: st) w := by
  subst hn
  exact fun H locs ls hP hD hS hh => lv_dup_x1 C.1 C.2.1 hdg hv hv2 (kk H locs ls hP hD hS hh)
theorem g_dup2 (n : Nat) (C : sg_C p R s m args meth c cc nL own Ts D Y Z A) {va vb : Value} (hdg : decode cc pc = .ok (.dup2, 1)) (hn : pc + 1 = n) (hv : va.category = 1) (hv2 : vb.category = 1) (kk : sg_G p l e R s m args below meth c D A nL cells slots Q n lv (va :: vb :: va :: vb :: st) w) : sg_G p l e R s m args below meth c D A nL cells slots Q pc lv (va :: vb :: st) w := by
  subst hn
  exact fun H locs ls hP hD hS hh => lv_dup2_11 C.1 C.2.1 hdg hv hv2 (kk H locs ls hP hD hS hh)
end SGA
