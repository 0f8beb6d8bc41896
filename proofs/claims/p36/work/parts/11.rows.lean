/-! ROWS: arithmetic, branches, cells, calls, ends -/
section SGB
variable {p : Program} {l : Launch} {e : Env} {R : Room} {s : State} {m : MethodId} {args : Array Value} {below : List Frame} {meth : Method} {c : Code} {D : va_G} {Y : Nat → ClassId} {Z : (Nat → Prop) → State → Heap → Prop} {A : Nat → Prop} {nL : Nat} {cells slots : Nat} {Q : State → Prop} {cc : ByteArray} {own : String} {Ts : List Cond} {pc : Nat} {lv : List (Nat × Value)} {st : List Value} {w : va_W} {x y : Int32}
theorem g_iadd (n : Nat) (C : sg_C p R s m args meth c cc nL own Ts D Y Z A) (hdg : decode cc pc = .ok (.iadd, 1)) (hn : pc + 1 = n) (kk : sg_G p l e R s m args below meth c D A nL cells slots Q n lv (.int (x + y) :: st) w) : sg_G p l e R s m args below meth c D A nL cells slots Q pc lv (.int y :: .int x :: st) w := by
  subst hn
  exact fun H locs ls hP hD hS hh => lv_iadd C.1 C.2.1 hdg (kk H locs ls hP hD hS hh)
theorem g_isub (n : Nat) (C : sg_C p R s m args meth c cc nL own Ts D Y Z A) (hdg : decode cc pc = .ok (.isub, 1)) (hn : pc + 1 = n) (kk : sg_G p l e R s m args below meth c D A nL cells slots Q n lv (.int (x - y) :: st) w) : sg_G p l e R s m args below meth c D A nL cells slots Q pc lv (.int y :: .int x :: st) w := by
  subst hn
  exact fun H locs ls hP hD hS hh => lv_isub C.1 C.2.1 hdg (kk H locs ls hP hD hS hh)
theorem g_imul (n : Nat) (C : sg_C p R s m args meth c cc nL own Ts D Y Z A) (hdg : decode cc pc = .ok (.imul, 1)) (hn : pc + 1 = n) (kk : sg_G p l e R s m args below meth c D A nL cells slots Q n lv (.int (x * y) :: st) w) : sg_G p l e R s m args below meth c D A nL cells slots Q pc lv (.int y :: .int x :: st) w := by
  subst hn
  exact fun H locs ls hP hD hS hh => lv_imul C.1 C.2.1 hdg (kk H locs ls hP hD hS hh)
theorem g_iand (n : Nat) (C : sg_C p R s m args meth c cc nL own Ts D Y Z A) (hdg : decode cc pc = .ok (.iand, 1)) (hn : pc + 1 = n) (kk : sg_G p l e R s m args below meth c D A nL cells slots Q n lv (.int (x &&& y) :: st) w) : sg_G p l e R s m args below meth c D A nL cells slots Q pc lv (.int y :: .int x :: st) w := by
  subst hn
  exact fun H locs ls hP hD hS hh => lv_iand C.1 C.2.1 hdg (kk H locs ls hP hD hS hh)
theorem g_ior (n : Nat) (C : sg_C p R s m args meth c cc nL own Ts D Y Z A) (hdg : decode cc pc = .ok (.ior, 1)) (hn : pc + 1 = n) (kk : sg_G p l e R s m args below meth c D A nL cells slots Q n lv (.int (x ||| y) :: st) w) : sg_G p l e R s m args below meth c D A nL cells slots Q pc lv (.int y :: .int x :: st) w := by
  subst hn
  exact fun H locs ls hP hD hS hh => lv_ior C.1 C.2.1 hdg (kk H locs ls hP hD hS hh)
theorem g_ixor (n : Nat) (C : sg_C p R s m args meth c cc nL own Ts D Y Z A) (hdg : decode cc pc = .ok (.ixor, 1)) (hn : pc + 1 = n) (kk : sg_G p l e R s m args below meth c D A nL cells slots Q n lv (.int (x ^^^ y) :: st) w) : sg_G p l e R s m args below meth c D A nL cells slots Q pc lv (.int y :: .int x :: st) w := by
  subst hn
  exact fun H locs ls hP hD hS hh => lv_ixor C.1 C.2.1 hdg (kk H locs ls hP hD hS hh)
theorem g_ishl (n : Nat) (C : sg_C p R s m args meth c cc nL own Ts D Y Z A) (hdg : decode cc pc = .ok (.ishl, 1)) (hn : pc + 1 = n) (kk : sg_G p l e R s m args below meth c D A nL cells slots Q n lv (.int (x <<< (y &&& 31)) :: st) w) : sg_G p l e R s m args below meth c D A nL cells slots Q pc lv (.int y :: .int x :: st) w := by
  subst hn
  exact fun H locs ls hP hD hS hh => lv_ishl C.1 C.2.1 hdg (kk H locs ls hP hD hS hh)
theorem g_ishr (n : Nat) (C : sg_C p R s m args meth c cc nL own Ts D Y Z A) (hdg : decode cc pc = .ok (.ishr, 1)) (hn : pc + 1 = n) (kk : sg_G p l e R s m args below meth c D A nL cells slots Q n lv (.int (x >>> (y &&& 31)) :: st) w) : sg_G p l e R s m args below meth c D A nL cells slots Q pc lv (.int y :: .int x :: st) w := by
  subst hn
  exact fun H locs ls hP hD hS hh => lv_ishr C.1 C.2.1 hdg (kk H locs ls hP hD hS hh)
theorem g_ineg (n : Nat) (C : sg_C p R s m args meth c cc nL own Ts D Y Z A) (hdg : decode cc pc = .ok (.ineg, 1)) (hn : pc + 1 = n) (kk : sg_G p l e R s m args below meth c D A nL cells slots Q n lv (.int (-x) :: st) w) : sg_G p l e R s m args below meth c D A nL cells slots Q pc lv (.int x :: st) w := by
  subst hn
  exact fun H locs ls hP hD hS hh => lv_ineg C.1 C.2.1 hdg (kk H locs ls hP hD hS hh)
theorem g_i2b (n : Nat) (C : sg_C p R s m args meth c cc nL own Ts D Y Z A) (hdg : decode cc pc = .ok (.i2b, 1)) (hn : pc + 1 = n) (kk : sg_G p l e R s m args below meth c D A nL cells slots Q n lv (.int (x.toInt8.toInt32) :: st) w) : sg_G p l e R s m args below meth c D A nL cells slots Q pc lv (.int x :: st) w := by
  subst hn
  exact fun H locs ls hP hD hS hh => lv_i2b C.1 C.2.1 hdg rfl (kk H locs ls hP hD hS hh)
theorem g_i2c (n : Nat) (C : sg_C p R s m args meth c cc nL own Ts D Y Z A) (hdg : decode cc pc = .ok (.i2c, 1)) (hn : pc + 1 = n) (kk : sg_G p l e R s m args below meth c D A nL cells slots Q n lv (.int ((x.toUInt32 % 65536).toInt32) :: st) w) : sg_G p l e R s m args below meth c D A nL cells slots Q pc lv (.int x :: st) w := by
  subst hn
  exact fun H locs ls hP hD hS hh => lv_i2c C.1 C.2.1 hdg rfl (kk H locs ls hP hD hS hh)
theorem g_iushr (n : Nat) (C : sg_C p R s m args meth c cc nL own Ts D Y Z A) (hdg : decode cc pc = .ok (.iushr, 1)) (hn : pc + 1 = n) (kk : sg_G p l e R s m args below meth c D A nL cells slots Q n lv (.int ((x.toUInt32 >>> (y.toUInt32 &&& Int32.toUInt32 31)).toInt32) :: st) w) : sg_G p l e R s m args below meth c D A nL cells slots Q pc lv (.int y :: .int x :: st) w := by
  subst hn
  exact fun H locs ls hP hD hS hh => lv_iushr C.1 C.2.1 hdg rfl (kk H locs ls hP hD hS hh)
theorem g_idiv (n : Nat) (C : sg_C p R s m args meth c cc nL own Ts D Y Z A) (hdg : decode cc pc = .ok (.idiv, 1)) (hn : pc + 1 = n) {α : Type} {T : Option α} {v : α} (hF : sg_grd (!decide (y = 0)) T = some v) (kk : T = some v → sg_G p l e R s m args below meth c D A nL cells slots Q n lv (.int (x / y) :: st) w) : sg_G p l e R s m args below meth c D A nL cells slots Q pc lv (.int y :: .int x :: st) w := by
  subst hn
  obtain ⟨h1, h2⟩ := sg_grdE hF
  have h3 : ¬ y = 0 := by simpa using h1
  exact fun H locs ls hP hD hS hh => lv_idiv C.1 C.2.1 hdg h3 (kk h2 H locs ls hP hD hS hh)
theorem g_idivc (n : Nat) (C : sg_C p R s m args meth c cc nL own Ts D Y Z A) (hdg : decode cc pc = .ok (.idiv, 1)) (hn : pc + 1 = n) (h3 : ¬ y = 0) (kk : sg_G p l e R s m args below meth c D A nL cells slots Q n lv (.int (x / y) :: st) w) : sg_G p l e R s m args below meth c D A nL cells slots Q pc lv (.int y :: .int x :: st) w := by
  subst hn
  exact fun H locs ls hP hD hS hh => lv_idiv C.1 C.2.1 hdg h3 (kk H locs ls hP hD hS hh)
theorem g_irem (n : Nat) (C : sg_C p R s m args meth c cc nL own Ts D Y Z A) (hdg : decode cc pc = .ok (.irem, 1)) (hn : pc + 1 = n) {α : Type} {T : Option α} {v : α} (hF : sg_grd (!decide (y = 0)) T = some v) (kk : T = some v → sg_G p l e R s m args below meth c D A nL cells slots Q n lv (.int (x - x / y * y) :: st) w) : sg_G p l e R s m args below meth c D A nL cells slots Q pc lv (.int y :: .int x :: st) w := by
  subst hn
  obtain ⟨h1, h2⟩ := sg_grdE hF
  have h3 : ¬ y = 0 := by simpa using h1
  exact fun H locs ls hP hD hS hh => lv_irem C.1 C.2.1 hdg h3 (kk h2 H locs ls hP hD hS hh)
theorem g_iremc (n : Nat) (C : sg_C p R s m args meth c cc nL own Ts D Y Z A) (hdg : decode cc pc = .ok (.irem, 1)) (hn : pc + 1 = n) (h3 : ¬ y = 0) (kk : sg_G p l e R s m args below meth c D A nL cells slots Q n lv (.int (x - x / y * y) :: st) w) : sg_G p l e R s m args below meth c D A nL cells slots Q pc lv (.int y :: .int x :: st) w := by
  subst hn
  exact fun H locs ls hP hD hS hh => lv_irem C.1 C.2.1 hdg h3 (kk H locs ls hP hD hS hh)
theorem g_if_eq (n t : Nat) (C : sg_C p R s m args meth c cc nL own Ts D Y Z A) {off : Int} (hdg : decode cc pc = .ok (.ifCond .eq off, 3)) (ht : (pc : Int) + off = (t : Int)) (hn : pc + 3 = n) {α : Type} {T E : Option α} {v : α} (hF : (if x = 0 then T else E) = some v) (kt : T = some v → sg_G p l e R s m args below meth c D A nL cells slots Q t lv st w) (kf : E = some v → sg_G p l e R s m args below meth c D A nL cells slots Q n lv st w) : sg_G p l e R s m args below meth c D A nL cells slots Q pc lv (.int x :: st) w := by
  subst hn
  by_cases hc : x = 0
  · rw [if_pos hc] at hF
    exact fun H locs ls hP hD hS hh => lv_if_eq C.1 C.2.1 hdg ht (fun _ => kt hF H locs ls hP hD hS hh) (fun h => absurd hc h)
  · rw [if_neg hc] at hF
    exact fun H locs ls hP hD hS hh => lv_if_eq C.1 C.2.1 hdg ht (fun h => absurd h hc) (fun _ => kf hF H locs ls hP hD hS hh)
theorem g_if_ne (n t : Nat) (C : sg_C p R s m args meth c cc nL own Ts D Y Z A) {off : Int} (hdg : decode cc pc = .ok (.ifCond .ne off, 3)) (ht : (pc : Int) + off = (t : Int)) (hn : pc + 3 = n) {α : Type} {T E : Option α} {v : α} (hF : (if x = 0 then E else T) = some v) (kt : T = some v → sg_G p l e R s m args below meth c D A nL cells slots Q t lv st w) (kf : E = some v → sg_G p l e R s m args below meth c D A nL cells slots Q n lv st w) : sg_G p l e R s m args below meth c D A nL cells slots Q pc lv (.int x :: st) w := by
  subst hn
  by_cases hc : x = 0
  · rw [if_pos hc] at hF
    exact fun H locs ls hP hD hS hh => lv_if_ne C.1 C.2.1 hdg ht (fun h => absurd hc h) (fun _ => kf hF H locs ls hP hD hS hh)
  · rw [if_neg hc] at hF
    exact fun H locs ls hP hD hS hh => lv_if_ne C.1 C.2.1 hdg ht (fun _ => kt hF H locs ls hP hD hS hh) (fun h => absurd h hc)
theorem g_if_lt (n t : Nat) (C : sg_C p R s m args meth c cc nL own Ts D Y Z A) {off : Int} (hdg : decode cc pc = .ok (.ifCond .lt off, 3)) (ht : (pc : Int) + off = (t : Int)) (hn : pc + 3 = n) {α : Type} {T E : Option α} {v : α} (hF : (if 0 ≤ x then E else T) = some v) (kt : T = some v → sg_G p l e R s m args below meth c D A nL cells slots Q t lv st w) (kf : E = some v → sg_G p l e R s m args below meth c D A nL cells slots Q n lv st w) : sg_G p l e R s m args below meth c D A nL cells slots Q pc lv (.int x :: st) w := by
  subst hn
  by_cases hc : 0 ≤ x
  · rw [if_pos hc] at hF
    exact fun H locs ls hP hD hS hh => lv_if_lt C.1 C.2.1 hdg ht (fun h => absurd h (Int32.not_lt.mpr hc)) (fun _ => kf hF H locs ls hP hD hS hh)
  · rw [if_neg hc] at hF
    exact fun H locs ls hP hD hS hh => lv_if_lt C.1 C.2.1 hdg ht (fun _ => kt hF H locs ls hP hD hS hh) (fun h => absurd (Int32.not_lt.mp h) hc)
theorem g_if_ge (n t : Nat) (C : sg_C p R s m args meth c cc nL own Ts D Y Z A) {off : Int} (hdg : decode cc pc = .ok (.ifCond .ge off, 3)) (ht : (pc : Int) + off = (t : Int)) (hn : pc + 3 = n) {α : Type} {T E : Option α} {v : α} (hF : (if x < 0 then E else T) = some v) (kt : T = some v → sg_G p l e R s m args below meth c D A nL cells slots Q t lv st w) (kf : E = some v → sg_G p l e R s m args below meth c D A nL cells slots Q n lv st w) : sg_G p l e R s m args below meth c D A nL cells slots Q pc lv (.int x :: st) w := by
  subst hn
  by_cases hc : x < 0
  · rw [if_pos hc] at hF
    exact fun H locs ls hP hD hS hh => lv_if_ge C.1 C.2.1 hdg ht (fun h => absurd h (Int32.not_le.mpr hc)) (fun _ => kf hF H locs ls hP hD hS hh)
  · rw [if_neg hc] at hF
    exact fun H locs ls hP hD hS hh => lv_if_ge C.1 C.2.1 hdg ht (fun _ => kt hF H locs ls hP hD hS hh) (fun h => absurd (Int32.not_le.mp h) hc)
theorem g_if_gt (n t : Nat) (C : sg_C p R s m args meth c cc nL own Ts D Y Z A) {off : Int} (hdg : decode cc pc = .ok (.ifCond .gt off, 3)) (ht : (pc : Int) + off = (t : Int)) (hn : pc + 3 = n) {α : Type} {T E : Option α} {v : α} (hF : (if x ≤ 0 then E else T) = some v) (kt : T = some v → sg_G p l e R s m args below meth c D A nL cells slots Q t lv st w) (kf : E = some v → sg_G p l e R s m args below meth c D A nL cells slots Q n lv st w) : sg_G p l e R s m args below meth c D A nL cells slots Q pc lv (.int x :: st) w := by
  subst hn
  by_cases hc : x ≤ 0
  · rw [if_pos hc] at hF
    exact fun H locs ls hP hD hS hh => lv_if_gt C.1 C.2.1 hdg ht (fun h => absurd h (Int32.not_lt.mpr hc)) (fun _ => kf hF H locs ls hP hD hS hh)
  · rw [if_neg hc] at hF
    exact fun H locs ls hP hD hS hh => lv_if_gt C.1 C.2.1 hdg ht (fun _ => kt hF H locs ls hP hD hS hh) (fun h => absurd (Int32.not_lt.mp h) hc)
theorem g_if_le (n t : Nat) (C : sg_C p R s m args meth c cc nL own Ts D Y Z A) {off : Int} (hdg : decode cc pc = .ok (.ifCond .le off, 3)) (ht : (pc : Int) + off = (t : Int)) (hn : pc + 3 = n) {α : Type} {T E : Option α} {v : α} (hF : (if 0 < x then E else T) = some v) (kt : T = some v → sg_G p l e R s m args below meth c D A nL cells slots Q t lv st w) (kf : E = some v → sg_G p l e R s m args below meth c D A nL cells slots Q n lv st w) : sg_G p l e R s m args below meth c D A nL cells slots Q pc lv (.int x :: st) w := by
  subst hn
  by_cases hc : 0 < x
  · rw [if_pos hc] at hF
    exact fun H locs ls hP hD hS hh => lv_if_le C.1 C.2.1 hdg ht (fun h => absurd h (Int32.not_le.mpr hc)) (fun _ => kf hF H locs ls hP hD hS hh)
  · rw [if_neg hc] at hF
    exact fun H locs ls hP hD hS hh => lv_if_le C.1 C.2.1 hdg ht (fun _ => kt hF H locs ls hP hD hS hh) (fun h => absurd (Int32.not_le.mp h) hc)
theorem g_icmp_eq (n t : Nat) (C : sg_C p R s m args meth c cc nL own Ts D Y Z A) {off : Int} (hdg : decode cc pc = .ok (.if_icmp .eq off, 3)) (ht : (pc : Int) + off = (t : Int)) (hn : pc + 3 = n) {α : Type} {T E : Option α} {v : α} (hF : (if x = y then T else E) = some v) (kt : T = some v → sg_G p l e R s m args below meth c D A nL cells slots Q t lv st w) (kf : E = some v → sg_G p l e R s m args below meth c D A nL cells slots Q n lv st w) : sg_G p l e R s m args below meth c D A nL cells slots Q pc lv (.int y :: .int x :: st) w := by
  subst hn
  by_cases hc : x = y
  · rw [if_pos hc] at hF
    exact fun H locs ls hP hD hS hh => lv_icmp_eq C.1 C.2.1 hdg ht (fun _ => kt hF H locs ls hP hD hS hh) (fun h => absurd hc h)
  · rw [if_neg hc] at hF
    exact fun H locs ls hP hD hS hh => lv_icmp_eq C.1 C.2.1 hdg ht (fun h => absurd h hc) (fun _ => kf hF H locs ls hP hD hS hh)
theorem g_icmp_ne (n t : Nat) (C : sg_C p R s m args meth c cc nL own Ts D Y Z A) {off : Int} (hdg : decode cc pc = .ok (.if_icmp .ne off, 3)) (ht : (pc : Int) + off = (t : Int)) (hn : pc + 3 = n) {α : Type} {T E : Option α} {v : α} (hF : (if x = y then E else T) = some v) (kt : T = some v → sg_G p l e R s m args below meth c D A nL cells slots Q t lv st w) (kf : E = some v → sg_G p l e R s m args below meth c D A nL cells slots Q n lv st w) : sg_G p l e R s m args below meth c D A nL cells slots Q pc lv (.int y :: .int x :: st) w := by
  subst hn
  by_cases hc : x = y
  · rw [if_pos hc] at hF
    exact fun H locs ls hP hD hS hh => lv_icmp_ne C.1 C.2.1 hdg ht (fun h => absurd hc h) (fun _ => kf hF H locs ls hP hD hS hh)
  · rw [if_neg hc] at hF
    exact fun H locs ls hP hD hS hh => lv_icmp_ne C.1 C.2.1 hdg ht (fun _ => kt hF H locs ls hP hD hS hh) (fun h => absurd h hc)
theorem g_icmp_lt (n t : Nat) (C : sg_C p R s m args meth c cc nL own Ts D Y Z A) {off : Int} (hdg : decode cc pc = .ok (.if_icmp .lt off, 3)) (ht : (pc : Int) + off = (t : Int)) (hn : pc + 3 = n) {α : Type} {T E : Option α} {v : α} (hF : (if y ≤ x then E else T) = some v) (kt : T = some v → sg_G p l e R s m args below meth c D A nL cells slots Q t lv st w) (kf : E = some v → sg_G p l e R s m args below meth c D A nL cells slots Q n lv st w) : sg_G p l e R s m args below meth c D A nL cells slots Q pc lv (.int y :: .int x :: st) w := by
  subst hn
  by_cases hc : y ≤ x
  · rw [if_pos hc] at hF
    exact fun H locs ls hP hD hS hh => lv_icmp_lt C.1 C.2.1 hdg ht (fun h => absurd h (Int32.not_lt.mpr hc)) (fun _ => kf hF H locs ls hP hD hS hh)
  · rw [if_neg hc] at hF
    exact fun H locs ls hP hD hS hh => lv_icmp_lt C.1 C.2.1 hdg ht (fun _ => kt hF H locs ls hP hD hS hh) (fun h => absurd (Int32.not_lt.mp h) hc)
theorem g_icmp_ge (n t : Nat) (C : sg_C p R s m args meth c cc nL own Ts D Y Z A) {off : Int} (hdg : decode cc pc = .ok (.if_icmp .ge off, 3)) (ht : (pc : Int) + off = (t : Int)) (hn : pc + 3 = n) {α : Type} {T E : Option α} {v : α} (hF : (if x < y then E else T) = some v) (kt : T = some v → sg_G p l e R s m args below meth c D A nL cells slots Q t lv st w) (kf : E = some v → sg_G p l e R s m args below meth c D A nL cells slots Q n lv st w) : sg_G p l e R s m args below meth c D A nL cells slots Q pc lv (.int y :: .int x :: st) w := by
  subst hn
  by_cases hc : x < y
  · rw [if_pos hc] at hF
    exact fun H locs ls hP hD hS hh => lv_icmp_ge C.1 C.2.1 hdg ht (fun h => absurd h (Int32.not_le.mpr hc)) (fun _ => kf hF H locs ls hP hD hS hh)
  · rw [if_neg hc] at hF
    exact fun H locs ls hP hD hS hh => lv_icmp_ge C.1 C.2.1 hdg ht (fun _ => kt hF H locs ls hP hD hS hh) (fun h => absurd (Int32.not_le.mp h) hc)
theorem g_icmp_gt (n t : Nat) (C : sg_C p R s m args meth c cc nL own Ts D Y Z A) {off : Int} (hdg : decode cc pc = .ok (.if_icmp .gt off, 3)) (ht : (pc : Int) + off = (t : Int)) (hn : pc + 3 = n) {α : Type} {T E : Option α} {v : α} (hF : (if x ≤ y then E else T) = some v) (kt : T = some v → sg_G p l e R s m args below meth c D A nL cells slots Q t lv st w) (kf : E = some v → sg_G p l e R s m args below meth c D A nL cells slots Q n lv st w) : sg_G p l e R s m args below meth c D A nL cells slots Q pc lv (.int y :: .int x :: st) w := by
  subst hn
  by_cases hc : x ≤ y
  · rw [if_pos hc] at hF
    exact fun H locs ls hP hD hS hh => lv_icmp_gt C.1 C.2.1 hdg ht (fun h => absurd h (Int32.not_lt.mpr hc)) (fun _ => kf hF H locs ls hP hD hS hh)
  · rw [if_neg hc] at hF
    exact fun H locs ls hP hD hS hh => lv_icmp_gt C.1 C.2.1 hdg ht (fun _ => kt hF H locs ls hP hD hS hh) (fun h => absurd (Int32.not_lt.mp h) hc)
theorem g_icmp_le (n t : Nat) (C : sg_C p R s m args meth c cc nL own Ts D Y Z A) {off : Int} (hdg : decode cc pc = .ok (.if_icmp .le off, 3)) (ht : (pc : Int) + off = (t : Int)) (hn : pc + 3 = n) {α : Type} {T E : Option α} {v : α} (hF : (if y < x then E else T) = some v) (kt : T = some v → sg_G p l e R s m args below meth c D A nL cells slots Q t lv st w) (kf : E = some v → sg_G p l e R s m args below meth c D A nL cells slots Q n lv st w) : sg_G p l e R s m args below meth c D A nL cells slots Q pc lv (.int y :: .int x :: st) w := by
  subst hn
  by_cases hc : y < x
  · rw [if_pos hc] at hF
    exact fun H locs ls hP hD hS hh => lv_icmp_le C.1 C.2.1 hdg ht (fun h => absurd h (Int32.not_le.mpr hc)) (fun _ => kf hF H locs ls hP hD hS hh)
  · rw [if_neg hc] at hF
    exact fun H locs ls hP hD hS hh => lv_icmp_le C.1 C.2.1 hdg ht (fun _ => kt hF H locs ls hP hD hS hh) (fun h => absurd (Int32.not_le.mp h) hc)
theorem g_get (n : Nat) (C : sg_C p R s m args meth c cc nL own Ts D Y Z A) {C1 ref : String} {T : u_T} {N ci index a : Nat} {fs : List Value} (q0 : Nat) (k : Nat) (v : Value) (hin : ∀ w ∈ u_ws C1 T N, w ∈ Ts) (hlm : Cond.fieldLink own index ref (T k).2.1 (T k).2.2.1 ∈ Ts) (hsame : (T k).1 = ref) (hdg : decode cc pc = .ok (.getfield index, 3)) (hn : pc + 3 = n) (he : w[q0]? = some (a, .inr (ci, fs))) (hc : vwCl[ci]? = some (C1, T, N)) (hk : k < N) (hv : fs[k]? = some v) (kk : sg_G p l e R s m args below meth c D A nL cells slots Q n lv (v :: st) w) : sg_G p l e R s m args below meth c D A nL cells slots Q pc lv (.ref a :: st) w := by
  subst hn
  exact fun H locs ls hP hD hS hh => va_get C.1 C.2.1 C.2.2.2.2.1 hin C.2.2.2.1 C.2.2.2.2.2.1 hP q0 he hc k hk (C.2.2.2.2.1 _ hlm) (fun _ h9 => by rw [← hsame]; exact h9) hv hdg (kk H locs ls hP hD hS hh)
theorem g_put (n : Nat) (C : sg_C p R s m args meth c cc nL own Ts D Y Z A) {C1 ref : String} {T : u_T} {N ci index a : Nat} {fs : List Value} {v : Value} {ty : FieldType} {w2 : va_W} (q0 : Nat) (k : Nat) (ty0 : Nat → FieldType) (hty : ∀ k, k < N → parseFieldDescriptor (T k).2.2.1 = some (ty0 k)) (hnm : ∀ a, a < N → ∀ b, b < N → a ≠ b → (T a).2.1 ≠ (T b).2.1) (hin : ∀ w ∈ u_ws C1 T N, w ∈ Ts) (hlm : Cond.fieldLink own index ref (T k).2.1 (T k).2.2.1 ∈ Ts) (hsame : (T k).1 = ref) (hfin : (T k).2.2.2 = false) (hd : parseFieldDescriptor (T k).2.2.1 = some ty) (hnar : narrow ty v = v) (hfit : fits ty v = true) (hl : k < fs.length) (hdg : decode cc pc = .ok (.putfield index, 3)) (hn : pc + 3 = n) (he : w[q0]? = some (a, .inr (ci, fs))) (hc : vwCl[ci]? = some (C1, T, N)) (hk : k < N) (hw : w.set q0 (a, .inr (ci, fs.set k v)) = w2) (kk : sg_G p l e R s m args below meth c D A nL cells slots Q n lv st w2) : sg_G p l e R s m args below meth c D A nL cells slots Q pc lv (v :: .ref a :: st) w := by
  subst hn
  subst hw
  exact fun H locs ls hP hD hS hh => va_put C.1 C.2.1 C.2.2.2.2.1 hin ty0 hty hnm C.2.2.2.1 C.2.2.2.2.2.1 hP hD hS q0 he hc k hk (C.2.2.2.2.1 _ hlm) (fun _ h9 => by rw [← hsame]; exact h9) hfin hd hnar hfit hl hdg (fun H1 locs1 hP1 hD1 hS1 => kk H1 locs1 ls hP1 hD1 hS1 hh)
theorem g_iald (n : Nat) (C : sg_C p R s m args meth c cc nL own Ts D Y Z A) {a N : Nat} {f : Nat → Int32} {i : Int32} (q0 : Nat) (v0 : Int32) (hdg : decode cc pc = .ok (.iaload, 1)) (hn : pc + 1 = n) (he : w[q0]? = some (a, .inl (Y 0, N, .inl f))) (hv0 : f i.toNatClampNeg = v0) {α : Type} {T : Option α} {v : α} (hF : sg_grd (sg_in i N) T = some v) (kk : T = some v → sg_G p l e R s m args below meth c D A nL cells slots Q n lv (.int v0 :: st) w) : sg_G p l e R s m args below meth c D A nL cells slots Q pc lv (.int i :: .ref a :: st) w := by
  subst hn
  subst hv0
  obtain ⟨h1, h2⟩ := sg_grdE hF
  exact fun H locs ls hP hD hS hh => va_iald C.1 C.2.1 C.2.2.2.2.2.1 hP q0 0 he rfl (sg_inE h1) hdg (kk h2 H locs ls hP hD hS hh)
theorem g_ialdc (n : Nat) (C : sg_C p R s m args meth c cc nL own Ts D Y Z A) {a N : Nat} {f : Nat → Int32} {i : Int32} (q0 k : Nat) (v0 : Int32) (hdg : decode cc pc = .ok (.iaload, 1)) (hn : pc + 1 = n) (he : w[q0]? = some (a, .inl (Y 0, N, .inl f))) (hik : i.toNatClampNeg = k) (h1 : sg_in i N = true) (hv0 : f k = v0) (kk : sg_G p l e R s m args below meth c D A nL cells slots Q n lv (.int v0 :: st) w) : sg_G p l e R s m args below meth c D A nL cells slots Q pc lv (.int i :: .ref a :: st) w := by
  subst hn
  subst hik
  subst hv0
  exact fun H locs ls hP hD hS hh => va_iald C.1 C.2.1 C.2.2.2.2.2.1 hP q0 0 he rfl (sg_inE h1) hdg (kk H locs ls hP hD hS hh)
theorem g_bald (n : Nat) (C : sg_C p R s m args meth c cc nL own Ts D Y Z A) {a N : Nat} {f : Nat → Int32} {i : Int32} (q0 : Nat) (v0 : Int32) (hdg : decode cc pc = .ok (.baload, 1)) (hn : pc + 1 = n) (he : w[q0]? = some (a, .inl (Y 1, N, .inl f))) (hv0 : f i.toNatClampNeg = v0) {α : Type} {T : Option α} {v : α} (hF : sg_grd (sg_in i N) T = some v) (kk : T = some v → sg_G p l e R s m args below meth c D A nL cells slots Q n lv (.int v0 :: st) w) : sg_G p l e R s m args below meth c D A nL cells slots Q pc lv (.int i :: .ref a :: st) w := by
  subst hn
  subst hv0
  obtain ⟨h1, h2⟩ := sg_grdE hF
  exact fun H locs ls hP hD hS hh => va_bald C.1 C.2.1 C.2.2.2.2.2.1 hP q0 1 he rfl (sg_inE h1) hdg (kk h2 H locs ls hP hD hS hh)
theorem g_baldc (n : Nat) (C : sg_C p R s m args meth c cc nL own Ts D Y Z A) {a N : Nat} {f : Nat → Int32} {i : Int32} (q0 k : Nat) (v0 : Int32) (hdg : decode cc pc = .ok (.baload, 1)) (hn : pc + 1 = n) (he : w[q0]? = some (a, .inl (Y 1, N, .inl f))) (hik : i.toNatClampNeg = k) (h1 : sg_in i N = true) (hv0 : f k = v0) (kk : sg_G p l e R s m args below meth c D A nL cells slots Q n lv (.int v0 :: st) w) : sg_G p l e R s m args below meth c D A nL cells slots Q pc lv (.int i :: .ref a :: st) w := by
  subst hn
  subst hik
  subst hv0
  exact fun H locs ls hP hD hS hh => va_bald C.1 C.2.1 C.2.2.2.2.2.1 hP q0 1 he rfl (sg_inE h1) hdg (kk H locs ls hP hD hS hh)
theorem g_iast (n : Nat) (C : sg_C p R s m args meth c cc nL own Ts D Y Z A) {a N : Nat} {f : Nat → Int32} {i z : Int32} {w2 : va_W} (q0 : Nat) (hdg : decode cc pc = .ok (.iastore, 1)) (hn : pc + 1 = n) (he : w[q0]? = some (a, .inl (Y 0, N, .inl f))) (h1 : sg_in i N = true) (hw : w.set q0 (a, .inl (Y 0, N, .inl (upd f i.toNatClampNeg z))) = w2) (kk : sg_G p l e R s m args below meth c D A nL cells slots Q n lv st w2) : sg_G p l e R s m args below meth c D A nL cells slots Q pc lv (.int z :: .int i :: .ref a :: st) w := by
  subst hn
  subst hw
  exact fun H locs ls hP hD hS hh => va_iast C.1 C.2.1 C.2.2.2.2.2.1 hP hD hS q0 0 he rfl (sg_inE h1) hdg (fun H1 locs1 hP1 hD1 hS1 => kk H1 locs1 ls hP1 hD1 hS1 hh)
theorem g_alen (n : Nat) (C : sg_C p R s m args meth c cc nL own Ts D Y Z A) {a : Nat} {cA : ClassId} {z : vp_A} {ty : FieldType} {v : Int32} (q0 t0 : Nat) (hdg : decode cc pc = .ok (.arraylength, 1)) (hn : pc + 1 = n) (he : w[q0]? = some (a, .inl (cA, z))) (ht : (sg_T Y)[t0]? = some (cA, ty)) (hv : Int32.ofNat z.1 = v) (kk : sg_G p l e R s m args below meth c D A nL cells slots Q n lv (.int v :: st) w) : sg_G p l e R s m args below meth c D A nL cells slots Q pc lv (.ref a :: st) w := by
  subst hn
  exact fun H locs ls hP hD hS hh => va_alen C.1 C.2.1 C.2.2.2.2.2.1 hP q0 t0 he ht hv hdg (kk H locs ls hP hD hS hh)
theorem g_mmin (n : Nat) (C : sg_C p R s m args meth c cc nL own Ts D Y Z A) {index : Nat} (hl : Cond.methodLink own index Lib.Math.min.name ∈ Ts) (h2 : Cond.static Lib.Math.min.name ∈ Ts) (h3 : Cond.initialized "java/lang/Math" ∈ Ts) (h4 : Cond.code Lib.Math.min.name Lib.Math.min.code 2 (some .int) ∈ Ts) (hfr : 1 ≤ R.frames) (hlo : (st.map fun v => v.category).sum + 13 ≤ R.locals) (hcs : cells ≤ R.cells) (hss : slots ≤ R.slots) (hdg : decode cc pc = .ok (.invokestatic index, 3)) (hn : pc + 3 = n) (kk : sg_G p l e R s m args below meth c D A nL cells slots Q n lv (.int (if y < x then y else x) :: st) w) : sg_G p l e R s m args below meth c D A nL cells slots Q pc lv (.int y :: .int x :: st) w := by
  subst hn
  exact fun H locs ls hP hD hS hh => va_mmin C.1 C.2.1 (C.2.2.1.trans hh.1.symm) C.2.2.2.1 (C.2.2.2.2.1 _ hl) (C.2.2.2.2.1 _ h2) (C.2.2.2.2.1 _ h3) (C.2.2.2.2.1 _ h4) hfr hlo hcs hss hdg (kk H locs ls hP hD hS hh)
theorem g_mmax (n : Nat) (C : sg_C p R s m args meth c cc nL own Ts D Y Z A) {index : Nat} (hl : Cond.methodLink own index Lib.Math.max.name ∈ Ts) (h2 : Cond.static Lib.Math.max.name ∈ Ts) (h3 : Cond.initialized "java/lang/Math" ∈ Ts) (h4 : Cond.code Lib.Math.max.name Lib.Math.max.code 2 (some .int) ∈ Ts) (hfr : 1 ≤ R.frames) (hlo : (st.map fun v => v.category).sum + 13 ≤ R.locals) (hcs : cells ≤ R.cells) (hss : slots ≤ R.slots) (hdg : decode cc pc = .ok (.invokestatic index, 3)) (hn : pc + 3 = n) (kk : sg_G p l e R s m args below meth c D A nL cells slots Q n lv (.int (if x < y then y else x) :: st) w) : sg_G p l e R s m args below meth c D A nL cells slots Q pc lv (.int y :: .int x :: st) w := by
  subst hn
  exact fun H locs ls hP hD hS hh => va_mmax C.1 C.2.1 (C.2.2.1.trans hh.1.symm) C.2.2.2.1 (C.2.2.2.2.1 _ hl) (C.2.2.2.2.1 _ h2) (C.2.2.2.2.1 _ h3) (C.2.2.2.2.1 _ h4) hfr hlo hcs hss hdg (kk H locs ls hP hD hS hh)
theorem g_copyi (n : Nat) (C : sg_C p R s m args meth c cc nL own Ts D Y Z A) {index a a0 n0 n1 : Nat} {f g : Nat → Int32} {sp dp k : Int32} {w2 : va_W} (q0 q1 : Nat) (hl : Cond.methodLink own index arraycopyName ∈ Ts) (h2 : Cond.native arraycopyName ∈ Ts) (h3 : Cond.static arraycopyName ∈ Ts) (h4 : Cond.initialized "java/lang/System" ∈ Ts) (ha0 : w[q0]? = some (a0, .inl (Y 0, n0, .inl f))) (ha1 : w[q1]? = some (a, .inl (Y 0, n1, .inl g))) (hs1 : ¬ sp < 0) (hs2 : ¬ dp < 0) (hs3 : ¬ k < 0) (hs4 : sp.toNatClampNeg + k.toNatClampNeg ≤ n0) (hs5 : dp.toNatClampNeg + k.toNatClampNeg ≤ n1) (hfr : 1 ≤ R.frames) (hlo : (st.map fun v => v.category).sum + (nativeFrameWords "java/lang/System" "arraycopy" 5 + 11) ≤ R.locals) (hdg : decode cc pc = .ok (.invokestatic index, 3)) (hn : pc + 3 = n) (hw : w.set q1 (a, .inl (Y 0, n1, .inl (va_cpy f g sp.toNatClampNeg dp.toNatClampNeg k.toNatClampNeg))) = w2) (kk : sg_G p l e R s m args below meth c D A nL cells slots Q n lv st w2) : sg_G p l e R s m args below meth c D A nL cells slots Q pc lv (.int k :: .int dp :: .ref a :: .int sp :: .ref a0 :: st) w := by
  subst hn
  subst hw
  exact fun H locs ls hP hD hS hh => va_copyi C.1 C.2.1 (C.2.2.1.trans hh.1.symm) C.2.2.2.1 (C.2.2.2.2.1 _ hl) (C.2.2.2.2.1 _ h2) (C.2.2.2.2.1 _ h3) (C.2.2.2.2.1 _ h4) C.2.2.2.2.2.1 hP hD hS q0 q1 0 0 ha0 ha1 rfl rfl rfl hs1 hs2 hs3 hs4 hs5 (fun _ _ => rfl) hfr hlo hdg (fun H1 locs1 hP1 hD1 hS1 => kk H1 locs1 ls hP1 hD1 hS1 hh)
theorem sg_enter {y : MethodName} {ws ws' : List Cond} {fr lo maxL : Nat} {cc : ByteArray} {own : String} {ret : Option FieldType} {av : List Value} {w : va_W} {sz : Nat} {Qc : Array Value → State → Outcome → State → Prop}
    (hy : plainFor y = true) (hw : ws = Cond.code y cc maxL ret :: ws') (hcls : y.cls = own) (hle : (lg_sl av).length ≤ maxL) (hZ : sg_Zok Z)
    (body : ∀ (p : Program) (e : Env) (s : State) (m : MethodId) (args : Array Value) (below : List Frame) (meth : Method) (c : Code), sg_C p ({ frames := fr, cells := 0, slots := 0, locals := lo } : Room) s m args meth c cc maxL own ws D Y Z (va_A w s.heap.size) → meth.sig.returnType = ret → (∀ Q : State → Prop, Q = MQ below (Qc) args s 0 0 (va_A w s.heap.size) → s.heap.size = sz → sg_G p l e ({ frames := fr, cells := 0, slots := 0, locals := lo } : Room) s m args below meth c D (va_A w s.heap.size) maxL 0 0 Q 0 (lv_args 0 av) [] w)) :
    Met l y ws ({ frames := fr, cells := 0, slots := 0, locals := lo } : Room) (va_Pc av (sg_pre D Y Z w sz)) Qc 0 0 (va_A w sz) := by
  refine va_MetF (cc := cc) (maxL := maxL) (ret := ret) hy hw ?_
  intro p e s m args below meth c s₁ B hml hv
  obtain ⟨rfl, hsz, hP, hK, hD0, hZ0⟩ := hv
  subst hsz
  have hts := atoms_spec (ws := ws) B.pre
  have hown : s.vm.findClass own = some m.cls := by rw [← hcls]; exact findClass_of_methodNamed B.named
  have hD := hD0.self (sz := s.heap.size)
  have C : sg_C p ({ frames := fr, cells := 0, slots := 0, locals := lo } : Room) s m av.toArray meth c cc maxL own ws D Y Z (va_A w s.heap.size) := ⟨B.exec, B.bytes, hml, hown, hts, hK, fun q h => Or.inr h, hZ, hZ0, B.notSynchronized⟩
  have hl := lv_entry av (n := maxL) hle
  rw [lg_entry_eq]
  exact body p e s m _ below meth c C B.returns _ rfl rfl _ _ _ hP hD va_S.rf hl
theorem g_iret {w0 w' : va_W} {v r : Int32} {sz : Nat} {ty : FieldType} (C : sg_C p R s m args meth c cc nL own Ts D Y Z (va_A w0 s.heap.size)) (hr : meth.sig.returnType = some ty) (hnar : narrow ty (.int v) = .int v) (hQ : Q = MQ below (va_Qi (fun (r2 : Int32) (_ : Unit) => r2 = r) (fun _ => sg_post D Y w0 w' sz) (va_A w0 sz)) args s cells slots (va_A w0 s.heap.size)) (hsz : s.heap.size = sz) (hdg : decode cc pc = .ok (.ireturn, 1)) (hv : v = r) (hw : w = w') : sg_G p l e R s m args below meth c D (va_A w0 s.heap.size) nL cells slots Q pc lv [.int v] w := by
  subst hQ
  subst hw
  subst hv
  subst hsz
  intro H locs ls hP hD hS hl
  exact W.zret (v := v) C.1 C.2.1 hr hnar (fun t ht hW => ⟨⟨v, (), rfl, rfl, by rw [ht]; exact hP, va_K.moved hW.alike C.2.2.2.2.2.1, hD⟩, hS.F ht⟩) hS.2.2 hdg C.2.2.2.2.2.2.2.2.2
theorem g_vret {w0 w' : va_W} {sz : Nat} (C : sg_C p R s m args meth c cc nL own Ts D Y Z (va_A w0 s.heap.size)) (hr : meth.sig.returnType = none) (hQ : Q = MQ below (va_Qv (fun (_ : Unit) => True) (fun _ => sg_post D Y w0 w' sz) (va_A w0 sz)) args s cells slots (va_A w0 s.heap.size)) (hsz : s.heap.size = sz) (hdg : decode cc pc = .ok (.return_, 1)) (hw : w = w') : sg_G p l e R s m args below meth c D (va_A w0 s.heap.size) nL cells slots Q pc lv [] w := by
  subst hQ
  subst hw
  subst hsz
  intro H locs ls hP hD hS hl
  exact W.vret C.1 C.2.1 hr (fun t ht hW => ⟨⟨(), rfl, trivial, by rw [ht]; exact hP, va_K.moved hW.alike C.2.2.2.2.2.1, hD⟩, hS.F ht⟩) hS.2.2 hdg C.2.2.2.2.2.2.2.2.2
/-- the world is cut: the callee's cells, the others; behind the call they are put together again by their places -/
def sg_cut (w wc w1 w2 : va_W) (isC isR is2 : List Nat) : Prop := isC.map (fun i => w[i]?) = wc.map some ∧ isR.map (fun i => w[i]?) = (isR.filterMap (fun i => w[i]?)).map some ∧ va_nd isR = true ∧ (∀ i ∈ isR, i ∉ isC) ∧ is2.map (fun i => (isR.filterMap (fun i => w[i]?) ++ w1)[i]?) = w2.map some ∧ va_nd is2 = true
theorem sg_pick {is : List Nat} {w w2 : va_W} (h : is.map (fun i => w[i]?) = w2.map some) : is.filterMap (fun i => w[i]?) = w2 := by
  have h2 : (is.map (fun i => w[i]?)).filterMap id = (w2.map some).filterMap id := by rw [h]
  rw [List.filterMap_map, List.filterMap_map] at h2
  simpa using h2
theorem sg_blind {D : va_G} {Y : Nat → ClassId} {Z : (Nat → Prop) → State → Heap → Prop} (hZ : sg_Zok Z) {av : List Value} {w : va_W} {sz : Nat} : FrameBlind (va_Pc av (sg_pre D Y Z w sz)) := fun a U g mk q => by
  obtain ⟨q0, q1, qP, qK, qD, qZ⟩ := q
  exact ⟨q0, q1, qP, va_K.moved (u := U) (U := U.calling g mk a) (Vm.Alike.refl U.vm) qK, qD, hZ.1 _ _ _ _ (State.WarmedH.refl U) qZ⟩
theorem sg_pre_of (C : sg_C p R s m args meth c cc nL own Ts D Y Z A) {wc : va_W} {isC : List Nat} (hC : isC.map (fun i => w[i]?) = wc.map some) (hnC : va_nd isC = true) {H : Heap} {locs : List Loc} (hP : va_P D vwCl w H) (hD : va_D A w) (hS : va_S A s.heap H locs) {av : List Value} : ∀ U : State, U.heap = H → s.WarmedH U.vm → va_Pc av (sg_pre D Y Z wc H.size) av.toArray U := by
  intro U hU hW
  have hPc := hP.sub (ws' := wc) isC (sg_pick hC)
  have hDc := hD.sub (ws' := wc) isC hnC hC
  have hF := va_free hD hS C.2.2.2.2.2.2.1 isC hC
  refine ⟨rfl, by rw [hU], by rw [hU]; exact hPc, va_K.moved hW.alike C.2.2.2.2.2.1, hDc.weaken (fun _ _ _ _ => trivial), ?_⟩
  have z1 := C.2.2.2.2.2.2.2.2.1
  have z2 := C.2.2.2.2.2.2.2.1.1 _ _ _ _ hW z1
  have z3 := C.2.2.2.2.2.2.2.1.2.1 _ _ _ H z2 (fun a h1 h2 => hS.2.1 a h1 h2)
  rw [hU]
  exact C.2.2.2.2.2.2.2.1.2.2.1 _ _ _ _ z3 (fun q h => hF q h)
theorem sg_back (C : sg_C p R s m args meth c cc nL own Ts D Y Z A) {wc w1 w2 : va_W} {isC isR is2 : List Nat} (h : sg_cut w wc w1 w2 isC isR is2) {H H1 : Heap} {locs : List Loc} (hP : va_P D vwCl w H) (hD : va_D A w) (hS : va_S A s.heap H locs) {t : State} (ht : t.heap = H1) (hB : sg_post D Y wc w1 H.size t) (hk : ∀ q : Nat, q < H.size → ¬ va_A wc H.size q → H1[q]? = H[q]?) : va_P D vwCl w2 H1 ∧ va_D A w2 := by
  obtain ⟨hP1, hK1, hD1⟩ := hB
  rw [ht] at hP1
  obtain ⟨a1, a2, a3, a4, a5, a6⟩ := h
  have hF := va_free hD hS C.2.2.2.2.2.2.1 isC a1
  obtain ⟨b1, b2⟩ := va_join hP hD isC isR a1 a2 a3 a4 hk hF hP1 hD1
  exact ⟨b1.sub is2 (sg_pick a5), b2.sub is2 a6 a5⟩
theorem g_callNi (n : Nat) (C : sg_C p R s m args meth c cc nL own Ts D Y Z A) {y : MethodName} {bytes : ByteArray} {maxL n0 index : Nat} {ret : Option FieldType} {ws ws' : List Cond} {fr lo : Nat} {As : List Value} {wc w1 w2 : va_W} {host : String} {r : Int32} (isC isR is2 : List Nat) (hM : sg_MI l y ws fr lo D Y Z As wc r w1) (hG : GoodIn Ts ws) (hnest : va_Nw (.methodLinkNest own index y host) s) (hini : Cond.initialized y.cls ∈ Ts) (hsta : Cond.static y ∈ Ts) (hd : y.cls ≠ "java/lang/invoke/MethodHandle" ∧ y.cls ≠ "java/lang/invoke/VarHandle" ∧ (parseMethodDescriptor y.desc).map (fun d => d.parameters.length) = some n0) (hw0 : ws = Cond.code y bytes maxL ret :: ws') (hR : fr + 1 ≤ R.frames ∧ 8 + (maxL + 11) + lo ≤ R.locals) (hcut : sg_cut w wc w1 w2 isC isR is2) (hnC : va_nd isC = true) (hlen : As.length = n0) (hroom : (st.map fun v => v.category).sum ≤ 8) (hcs : cells ≤ R.cells ∧ slots ≤ R.slots) (hdg : decode cc pc = .ok (.invokestatic index, 3)) (hn : pc + 3 = n) {stk : List Value} (hstk : stk = As.reverse ++ st) (kk : sg_G p l e R s m args below meth c D A nL cells slots Q n lv (.int r :: st) w2) : sg_G p l e R s m args below meth c D A nL cells slots Q pc lv stk w := by
  subst hn
  subst hstk
  intro H locs ls hP hD hS hh
  have hF := va_free hD hS C.2.2.2.2.2.2.1 isC hcut.1
  refine va_calli (va_runSN (As := As) (rest := st) ⟨C.1, C.2.1, C.2.2.1, C.2.2.2.1, C.2.2.2.2.1⟩ (hM H.size) ⟨va_cnB n0 C.2.2.2.2.1 hG hw0 rfl rfl hnest (C.2.2.2.2.1 _ hini) hd hR, C.2.2.2.2.1 _ hsta, trivial⟩ ⟨sg_blind C.2.2.2.2.2.2.2.1, sg_pre_of C hcut.1 hnC hP hD hS⟩ rfl hlen hh.1 rfl (lv_room hroom) hdg hcs) hS (fun q _ h => hF q h) hF (fun r1 u t H1 locs1 ht hvm hw hB hz1 hk1 hS1 => ?_)
  have hw : r1 = r := hw
  subst hw
  obtain ⟨b1, b2⟩ := sg_back C hcut hP hD hS ht hB hk1
  exact kk H1 locs1 ls b1 b2 hS1 hh
theorem sg_neT {x k : Int32} {z : Int} (h : ¬ x = k) (hk : k.toInt = z) : x.toInt ≠ z := lv_neT h hk
theorem g_tsin (C : sg_C p R s m args meth c cc nL own Ts D Y Z A) {dflt lo hi : Int} {offs : Array Int} {len : Nat} {off : Int} (t : Nat) (k : Int32) (hdg : decode cc pc = .ok (.tableswitch dflt lo hi offs, len)) (hx : x = k) (h1 : ¬ k.toInt < lo) (h2 : ¬ hi < k.toInt) (ho : offs[(k.toInt - lo).toNat]? = some off) (ht : (pc : Int) + off = (t : Int)) (kk : sg_G p l e R s m args below meth c D A nL cells slots Q t lv st w) : sg_G p l e R s m args below meth c D A nL cells slots Q pc lv (.int x :: st) w := by
  subst hx
  exact fun H locs ls hP hD hS hh => lv_tableIn C.1 C.2.1 hdg h1 h2 ho ht (kk H locs ls hP hD hS hh)
theorem g_tsout (C : sg_C p R s m args meth c cc nL own Ts D Y Z A) {dflt lo hi : Int} {offs : Array Int} {len : Nat} (t : Nat) (hdg : decode cc pc = .ok (.tableswitch dflt lo hi offs, len)) (h : x.toInt < lo ∨ hi < x.toInt) (ht : (pc : Int) + dflt = (t : Int)) (kk : sg_G p l e R s m args below meth c D A nL cells slots Q t lv st w) : sg_G p l e R s m args below meth c D A nL cells slots Q pc lv (.int x :: st) w := by
  exact fun H locs ls hP hD hS hh => lv_tableOut C.1 C.2.1 hdg h ht (kk H locs ls hP hD hS hh)
theorem sg_iteE {α : Type} {c : Prop} {d : Decidable c} {T E : Option α} {v : α} (h : (@ite _ c d T E) = some v) : (c ∧ T = some v) ∨ (¬ c ∧ E = some v) := by
  by_cases hc : c
  · rw [if_pos hc] at h
    exact Or.inl ⟨hc, h⟩
  · rw [if_neg hc] at h
    exact Or.inr ⟨hc, h⟩
theorem g_gets (n : Nat) (C : sg_C p R s m args meth c cc nL own Ts D Y Z A) {C1 nm ds ref host : String} {v : Value} {index : Nat} (hZ : va_Z C1 nm ds v A s s.heap) (hlink : va_Nw (.fieldLinkNest own index ref nm ds host) s) (hsame : C1 = ref) (hdg : decode cc pc = .ok (.getstatic index, 3)) (hn : pc + 3 = n) (kk : sg_G p l e R s m args below meth c D A nL cells slots Q n lv (v :: st) w) : sg_G p l e R s m args below meth c D A nL cells slots Q pc lv st w := by
  subst hn
  exact fun H locs ls hP hD hS hh => va_getsN C.1 C.2.1 hZ hS C.2.2.2.1 (va_Nw.use rfl hlink) (fun _ h9 => by rw [← hsame]; exact h9) hdg (kk H locs ls hP hD hS hh)
theorem g_tald (n : Nat) (C : sg_C p R s m args meth c cc nL own Ts D Y Z A) {t N : Nat} {f : Nat → Value} {i : Int32} (v0 : Value) (hT : va_T .int t N f A s s.heap) (h1 : sg_in i N = true) (hv0 : f i.toNatClampNeg = v0) (hdg : decode cc pc = .ok (.iaload, 1)) (hn : pc + 1 = n) (kk : sg_G p l e R s m args below meth c D A nL cells slots Q n lv (v0 :: st) w) : sg_G p l e R s m args below meth c D A nL cells slots Q pc lv (.int i :: .ref t :: st) w := by
  subst hn
  exact fun H locs ls hP hD hS hh => va_ti C.1 C.2.1 hT hS (sg_inE h1) hv0 hdg (kk H locs ls hP hD hS hh)
theorem g_tlen (n : Nat) (C : sg_C p R s m args meth c cc nL own Ts D Y Z A) {t N : Nat} {f : Nat → Value} (v0 : Int32) (hT : va_T .int t N f A s s.heap) (hv0 : Int32.ofNat N = v0) (hdg : decode cc pc = .ok (.arraylength, 1)) (hn : pc + 1 = n) (kk : sg_G p l e R s m args below meth c D A nL cells slots Q n lv (.int v0 :: st) w) : sg_G p l e R s m args below meth c D A nL cells slots Q pc lv (.ref t :: st) w := by
  subst hn
  exact fun H locs ls hP hD hS hh => va_tlen C.1 C.2.1 hT hS hv0 hdg (kk H locs ls hP hD hS hh)
theorem g_ldc (n : Nat) (C : sg_C p R s m args meth c cc nL own Ts D Y Z A) {index : Nat} (v : Int32) (hc : Cond.constant own index v ∈ Ts) (hdg : decode cc pc = .ok (.ldc index, 2)) (hn : pc + 2 = n) (kk : sg_G p l e R s m args below meth c D A nL cells slots Q n lv (.int v :: st) w) : sg_G p l e R s m args below meth c D A nL cells slots Q pc lv st w := by
  subst hn
  exact fun H locs ls hP hD hS hh => lv_ldc C.1 C.2.1 C.2.2.2.1 (C.2.2.2.2.1 _ hc) hdg (kk H locs ls hP hD hS hh)
theorem g_ldcw (n : Nat) (C : sg_C p R s m args meth c cc nL own Ts D Y Z A) {index : Nat} (v : Int32) (hc : Cond.constant own index v ∈ Ts) (hdg : decode cc pc = .ok (.ldc_w index, 3)) (hn : pc + 3 = n) (kk : sg_G p l e R s m args below meth c D A nL cells slots Q n lv (.int v :: st) w) : sg_G p l e R s m args below meth c D A nL cells slots Q pc lv st w := by
  subst hn
  exact fun H locs ls hP hD hS hh => lv_ldcw C.1 C.2.1 C.2.2.2.1 (C.2.2.2.2.1 _ hc) hdg (kk H locs ls hP hD hS hh)
theorem sg_blt {a b : Nat} (h : Nat.blt a b = true) : a < b := Nat.le_of_ble_eq_true h
theorem sg_lt8 {k : Nat} (h : k < 8) : k = 0 ∨ k = 1 ∨ k = 2 ∨ k = 3 ∨ k = 4 ∨ k = 5 ∨ k = 6 ∨ k = 7 := by omega
theorem sg_lt12 {k : Nat} (h : k < 12) : k = 0 ∨ k = 1 ∨ k = 2 ∨ k = 3 ∨ k = 4 ∨ k = 5 ∨ k = 6 ∨ k = 7 ∨ k = 8 ∨ k = 9 ∨ k = 10 ∨ k = 11 := by omega
theorem sg_inN {i : Int32} {n : Nat} (h : sg_in i n = true) : i.toNatClampNeg < n := Nat.not_le.mp fun q => sg_inE h (Or.inr q)
theorem g_aald (n : Nat) (C : sg_C p R s m args meth c cc nL own Ts D Y Z A) {a N k : Nat} {f : Nat → Option Nat} {i : Int32} (q0 : Nat) (v0 : Value) (h1 : sg_in i N = true) (hk : k = i.toNatClampNeg) (hv0 : va_rf (f k) = v0) (hdg : decode cc pc = .ok (.aaload, 1)) (hn : pc + 1 = n) (he : w[q0]? = some (a, .inl (Y 2, N, .inr (.inr (.inr (.inr f)))))) (kk : sg_G p l e R s m args below meth c D A nL cells slots Q n lv (v0 :: st) w) : sg_G p l e R s m args below meth c D A nL cells slots Q pc lv (.int i :: .ref a :: st) w := by
  subst hn
  subst hk
  subst hv0
  exact fun H locs ls hP hD hS hh => va_aldq C.1 C.2.1 C.2.2.2.2.2.1 hP q0 2 he rfl (sg_inE h1) hdg (kk H locs ls hP hD hS hh)
theorem g_aaldI (n : Nat) (C : sg_C p R s m args meth c cc nL own Ts D Y Z A) {a N k : Nat} {f : Nat → Option Nat} {i : Int32} (q0 : Nat) (v0 : Value) (h1 : sg_in i N = true) (hk : k = i.toNatClampNeg) (hv0 : va_rf (f k) = v0) (hdg : decode cc pc = .ok (.aaload, 1)) (hn : pc + 1 = n) (he : w[q0]? = some (a, .inl (Y 3, N, .inr (.inr (.inr (.inr f)))))) (kk : sg_G p l e R s m args below meth c D A nL cells slots Q n lv (v0 :: st) w) : sg_G p l e R s m args below meth c D A nL cells slots Q pc lv (.int i :: .ref a :: st) w := by
  subst hn
  subst hk
  subst hv0
  intro H locs ls hP hD hS hh
  have hin := sg_inE h1
  have hlt : i.toNatClampNeg < N := sg_inN h1
  exact W.aald (v := va_rf (f i.toNatClampNeg)) (ty := .array .int) C.1 C.2.1 (hP q0 _ he) ((C.2.2.2.2.2.1.2 3 (Y 3, .array .int) rfl).1 N (fun j => va_rf (f j))) rfl (fun q => by cases q) (by show ¬ (i < 0 ∨ (arrV _ _ _).slots.size ≤ _); rw [arrV_size]; exact hin) (by show (arrV _ _ _).slots[_]? = _; rw [arrV_read _ _ hlt]) rfl rfl hdg (kk H locs ls hP hD hS hh)
theorem g_callVi (n : Nat) (C : sg_C p R s m args meth c cc nL own Ts D Y Z A) {y : MethodName} {bytes : ByteArray} {maxL n0 index : Nat} {ret : Option FieldType} {ws ws' : List Cond} {fr lo : Nat} {As : List Value} {wc w1 w2 : va_W} {C2 : String} {b : Nat} {q0 ci : Nat} {T : u_T} {N : Nat} {fs : List Value} {r : Int32} (isC isR is2 : List Nat) (hM : sg_MI l y ws fr lo D Y Z (.ref b :: As) wc r w1) (hG : GoodIn Ts (wsV own index C2 y ws)) (hd : y.cls = C2 ∧ y.cls ≠ "java/lang/invoke/MethodHandle" ∧ y.cls ≠ "java/lang/invoke/VarHandle" ∧ (parseMethodDescriptor y.desc).map (fun d => d.parameters.length) = some n0) (hw0 : ws = Cond.code y bytes maxL ret :: ws') (hR : fr + 1 ≤ R.frames ∧ 8 + (maxL + 11) + lo ≤ R.locals) (hrc : vwCl[ci]? = some (C2, T, N)) (hre : w[q0]? = some (b, .inr (ci, fs))) (hcut : sg_cut w wc w1 w2 isC isR is2) (hnC : va_nd isC = true) (hlen : As.length = n0) (hroom : (st.map fun v => v.category).sum ≤ 8) (hcs : cells ≤ R.cells ∧ slots ≤ R.slots) (hdg : decode cc pc = .ok (.invokevirtual index, 3)) (hn : pc + 3 = n) {stk : List Value} (hstk : stk = As.reverse ++ .ref b :: st) (kk : sg_G p l e R s m args below meth c D A nL cells slots Q n lv (.int r :: st) w2) : sg_G p l e R s m args below meth c D A nL cells slots Q pc lv stk w := by
  subst hn
  subst hstk
  intro H locs ls hP hD hS hh
  have hF := va_free hD hS C.2.2.2.2.2.2.1 isC hcut.1
  refine va_calli (va_runV (C := C2) (b := b) (As := As) (rest := st) ⟨C.1, C.2.1, C.2.2.1, C.2.2.2.1, C.2.2.2.2.1⟩ (hM H.size) (cwV n0 C.2.2.2.2.1 hG hw0 rfl rfl hd hR) ⟨sg_blind C.2.2.2.2.2.2.2.1, va_recv C.2.2.2.2.2.1 hP hrc hre, sg_pre_of C hcut.1 hnC hP hD hS⟩ rfl hlen hh.1 rfl (lv_room hroom) hdg hcs) hS (fun q _ h => hF q h) hF (fun r1 u t H1 locs1 ht hvm hw hB hz1 hk1 hS1 => ?_)
  have hw : r1 = r := hw
  subst hw
  obtain ⟨b1, b2⟩ := sg_back C hcut hP hD hS ht hB hk1
  exact kk H1 locs1 ls b1 b2 hS1 hh
theorem g_callVv (n : Nat) (C : sg_C p R s m args meth c cc nL own Ts D Y Z A) {y : MethodName} {bytes : ByteArray} {maxL n0 index : Nat} {ret : Option FieldType} {ws ws' : List Cond} {fr lo : Nat} {As : List Value} {wc w1 w2 : va_W} {C2 : String} {b : Nat} {q0 ci : Nat} {T : u_T} {N : Nat} {fs : List Value} (isC isR is2 : List Nat) (hM : sg_MV l y ws fr lo D Y Z (.ref b :: As) wc w1) (hG : GoodIn Ts (wsV own index C2 y ws)) (hd : y.cls = C2 ∧ y.cls ≠ "java/lang/invoke/MethodHandle" ∧ y.cls ≠ "java/lang/invoke/VarHandle" ∧ (parseMethodDescriptor y.desc).map (fun d => d.parameters.length) = some n0) (hw0 : ws = Cond.code y bytes maxL ret :: ws') (hR : fr + 1 ≤ R.frames ∧ 8 + (maxL + 11) + lo ≤ R.locals) (hrc : vwCl[ci]? = some (C2, T, N)) (hre : w[q0]? = some (b, .inr (ci, fs))) (hcut : sg_cut w wc w1 w2 isC isR is2) (hnC : va_nd isC = true) (hlen : As.length = n0) (hroom : (st.map fun v => v.category).sum ≤ 8) (hcs : cells ≤ R.cells ∧ slots ≤ R.slots) (hdg : decode cc pc = .ok (.invokevirtual index, 3)) (hn : pc + 3 = n) {stk : List Value} (hstk : stk = As.reverse ++ .ref b :: st) (kk : sg_G p l e R s m args below meth c D A nL cells slots Q n lv st w2) : sg_G p l e R s m args below meth c D A nL cells slots Q pc lv stk w := by
  subst hn
  subst hstk
  intro H locs ls hP hD hS hh
  have hF := va_free hD hS C.2.2.2.2.2.2.1 isC hcut.1
  refine va_callv (va_runV (C := C2) (b := b) (As := As) (rest := st) ⟨C.1, C.2.1, C.2.2.1, C.2.2.2.1, C.2.2.2.2.1⟩ (hM H.size) (cwV n0 C.2.2.2.2.1 hG hw0 rfl rfl hd hR) ⟨sg_blind C.2.2.2.2.2.2.2.1, va_recv C.2.2.2.2.2.1 hP hrc hre, sg_pre_of C hcut.1 hnC hP hD hS⟩ rfl hlen hh.1 rfl (lv_room hroom) hdg hcs) hS (fun q _ h => hF q h) hF (fun u t H1 locs1 ht hvm hw hB hz1 hk1 hS1 => ?_)
  obtain ⟨b1, b2⟩ := sg_back C hcut hP hD hS ht hB hk1
  exact kk H1 locs1 ls b1 b2 hS1 hh
theorem g_callSi (n : Nat) (C : sg_C p R s m args meth c cc nL own Ts D Y Z A) {y : MethodName} {bytes : ByteArray} {maxL n0 index : Nat} {ret : Option FieldType} {ws ws' : List Cond} {fr lo : Nat} {As : List Value} {wc w1 w2 : va_W}  {r : Int32} (isC isR is2 : List Nat) (hM : sg_MI l y ws fr lo D Y Z As wc r w1) (hG : GoodIn Ts (va_wsS own index y ws)) (hd : y.cls ≠ "java/lang/invoke/MethodHandle" ∧ y.cls ≠ "java/lang/invoke/VarHandle" ∧ (parseMethodDescriptor y.desc).map (fun d => d.parameters.length) = some n0) (hw0 : ws = Cond.code y bytes maxL ret :: ws') (hR : fr + 1 ≤ R.frames ∧ 8 + (maxL + 11) + lo ≤ R.locals)  (hcut : sg_cut w wc w1 w2 isC isR is2) (hnC : va_nd isC = true) (hlen : As.length = n0) (hroom : (st.map fun v => v.category).sum ≤ 8) (hcs : cells ≤ R.cells ∧ slots ≤ R.slots) (hdg : decode cc pc = .ok (.invokestatic index, 3)) (hn : pc + 3 = n) {stk : List Value} (hstk : stk = As.reverse ++ st) (kk : sg_G p l e R s m args below meth c D A nL cells slots Q n lv (.int r :: st) w2) : sg_G p l e R s m args below meth c D A nL cells slots Q pc lv stk w := by
  subst hn
  subst hstk
  intro H locs ls hP hD hS hh
  have hF := va_free hD hS C.2.2.2.2.2.2.1 isC hcut.1
  refine va_calli (va_runS (As := As) (rest := st) ⟨C.1, C.2.1, C.2.2.1, C.2.2.2.1, C.2.2.2.2.1⟩ (hM H.size) (va_cwS n0 C.2.2.2.2.1 hG hw0 rfl rfl hd hR) ⟨sg_blind C.2.2.2.2.2.2.2.1, sg_pre_of C hcut.1 hnC hP hD hS⟩ rfl hlen hh.1 rfl (lv_room hroom) hdg hcs) hS (fun q _ h => hF q h) hF (fun r1 u t H1 locs1 ht hvm hw hB hz1 hk1 hS1 => ?_)
  have hw : r1 = r := hw
  subst hw
  obtain ⟨b1, b2⟩ := sg_back C hcut hP hD hS ht hB hk1
  exact kk H1 locs1 ls b1 b2 hS1 hh
theorem g_callSv (n : Nat) (C : sg_C p R s m args meth c cc nL own Ts D Y Z A) {y : MethodName} {bytes : ByteArray} {maxL n0 index : Nat} {ret : Option FieldType} {ws ws' : List Cond} {fr lo : Nat} {As : List Value} {wc w1 w2 : va_W}  (isC isR is2 : List Nat) (hM : sg_MV l y ws fr lo D Y Z As wc w1) (hG : GoodIn Ts (va_wsS own index y ws)) (hd : y.cls ≠ "java/lang/invoke/MethodHandle" ∧ y.cls ≠ "java/lang/invoke/VarHandle" ∧ (parseMethodDescriptor y.desc).map (fun d => d.parameters.length) = some n0) (hw0 : ws = Cond.code y bytes maxL ret :: ws') (hR : fr + 1 ≤ R.frames ∧ 8 + (maxL + 11) + lo ≤ R.locals)  (hcut : sg_cut w wc w1 w2 isC isR is2) (hnC : va_nd isC = true) (hlen : As.length = n0) (hroom : (st.map fun v => v.category).sum ≤ 8) (hcs : cells ≤ R.cells ∧ slots ≤ R.slots) (hdg : decode cc pc = .ok (.invokestatic index, 3)) (hn : pc + 3 = n) {stk : List Value} (hstk : stk = As.reverse ++ st) (kk : sg_G p l e R s m args below meth c D A nL cells slots Q n lv st w2) : sg_G p l e R s m args below meth c D A nL cells slots Q pc lv stk w := by
  subst hn
  subst hstk
  intro H locs ls hP hD hS hh
  have hF := va_free hD hS C.2.2.2.2.2.2.1 isC hcut.1
  refine va_callv (va_runS (As := As) (rest := st) ⟨C.1, C.2.1, C.2.2.1, C.2.2.2.1, C.2.2.2.2.1⟩ (hM H.size) (va_cwS n0 C.2.2.2.2.1 hG hw0 rfl rfl hd hR) ⟨sg_blind C.2.2.2.2.2.2.2.1, sg_pre_of C hcut.1 hnC hP hD hS⟩ rfl hlen hh.1 rfl (lv_room hroom) hdg hcs) hS (fun q _ h => hF q h) hF (fun u t H1 locs1 ht hvm hw hB hz1 hk1 hS1 => ?_)
  obtain ⟨b1, b2⟩ := sg_back C hcut hP hD hS ht hB hk1
  exact kk H1 locs1 ls b1 b2 hS1 hh
end SGB
