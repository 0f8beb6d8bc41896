/-! CALLS IN LARGE WORLDS: a world as blocks; cut by a permutation of the blocks -/
theorem sg_permP {D : va_G} {cl : List vw_C} {w w2 : va_W} {H : Heap} (h : w.Perm w2) (hP : va_P D cl w H) : va_P D cl w2 H := fun k q hq => by
  obtain ⟨i, hi⟩ := List.getElem?_of_mem (h.mem_iff.mpr (List.mem_of_getElem? hq))
  exact hP i q hi
theorem sg_nodup {A : Nat → Prop} {w : va_W} (hD : va_D A w) : (w.map (fun q => q.1)).Nodup := by
  unfold List.Nodup
  rw [List.pairwise_map, List.pairwise_iff_getElem]
  intro i j hi hj hij e
  have := hD.1 i j w[i] w[j] (List.getElem?_eq_getElem hi) (List.getElem?_eq_getElem hj) e
  omega
theorem sg_ofnodup {A : Nat → Prop} {w : va_W} (h : (w.map (fun q => q.1)).Nodup) (hA : ∀ q ∈ w, A q.1) : va_D A w := by
  refine ⟨fun i j p q hi hj e => ?_, fun k q hq => hA q (List.mem_of_getElem? hq)⟩
  unfold List.Nodup at h
  rw [List.pairwise_map, List.pairwise_iff_getElem] at h
  obtain ⟨li, ei⟩ := List.getElem?_eq_some_iff.mp hi
  obtain ⟨lj, ej⟩ := List.getElem?_eq_some_iff.mp hj
  rcases Nat.lt_trichotomy i j with g | g | g
  · exact absurd (by rw [ei, ej]; exact e) (h i j li lj g)
  · exact g
  · exact absurd (by rw [ei, ej]; exact e.symm) (h j i lj li g)
theorem sg_permD {A : Nat → Prop} {w w2 : va_W} (h : w.Perm w2) (hD : va_D A w) : va_D A w2 := by
  refine sg_ofnodup ((h.map _).nodup_iff.mp (sg_nodup hD)) (fun q hq => ?_)
  obtain ⟨i, hi⟩ := List.getElem?_of_mem (h.mem_iff.mpr hq)
  exact hD.2 i q hi
/-- the world is the callee's cells and others; behind the call the callee's are new -/
def sg_cutP (w wc w1 w2 : va_W) : Prop := ∃ wr : va_W, w.Perm (wc ++ wr) ∧ (wr ++ w1).Perm w2
theorem sg_cutB {w wc w1 w2 : va_W} (f f' : Nat → va_W) (ids isC isR : List Nat) (hw : w = ids.flatMap f) (hp : ids.Perm (isC ++ isR)) (hc : wc = isC.flatMap f) (h1 : w1 = isC.flatMap f') (hr : isR.map f' = isR.map f) (h2 : w2 = ids.flatMap f') : sg_cutP w wc w1 w2 := by
  refine ⟨isR.flatMap f, ?_, ?_⟩
  · rw [hw, hc, ← List.flatMap_append]
    exact hp.flatMap_right f
  · have e : isR.flatMap f = isR.flatMap f' := by rw [List.flatMap_def, List.flatMap_def, hr]
    rw [e, h1, h2, ← List.flatMap_append]
    exact ((List.perm_append_comm).trans hp.symm).flatMap_right f'
theorem sg_cutP_free {A : Nat → Prop} {wc wr : va_W} {sz : Nat} (hD : va_D A (wc ++ wr)) (hA : ∀ q, sz ≤ q → A q) : ∀ q, va_A wc sz q → A q := by
  intro q h
  rcases h with ⟨k, e, h⟩ | h
  · have hl : k < wc.length := (List.getElem?_eq_some_iff.mp h).1
    exact hD.2 k (q, e) (by rw [List.getElem?_append_left hl]; exact h)
  · exact hA q h
section SGP
variable {p : Program} {l : Launch} {e : Env} {R : Room} {s : State} {m : MethodId} {args : Array Value} {below : List Frame} {meth : Method} {c : Code} {D : va_G} {Y : Nat → ClassId} {Z : (Nat → Prop) → State → Heap → Prop} {A : Nat → Prop} {nL : Nat} {cells slots : Nat} {Q : State → Prop} {cc : ByteArray} {own : String} {Ts : List Cond} {pc : Nat} {lv : List (Nat × Value)} {st : List Value} {w : va_W} {x y : Int32}
theorem sg_preP_of (C : sg_C p R s m args meth c cc nL own Ts D Y Z A) {wc wr : va_W} {H : Heap} {locs : List Loc} (hP : va_P D vwCl (wc ++ wr) H) (hD : va_D A (wc ++ wr)) (hS : va_S A s.heap H locs) {av : List Value} : ∀ U : State, U.heap = H → s.WarmedH U.vm → va_Pc av (sg_pre D Y Z wc H.size) av.toArray U := by
  intro U hU hW
  have hPc : va_P D vwCl wc H := fun k q hq => hP k q (by rw [List.getElem?_append_left (List.getElem?_eq_some_iff.mp hq).1]; exact hq)
  have hDc : va_D A wc := ⟨fun i j x y hi hj e => hD.1 i j x y (by rw [List.getElem?_append_left (List.getElem?_eq_some_iff.mp hi).1]; exact hi) (by rw [List.getElem?_append_left (List.getElem?_eq_some_iff.mp hj).1]; exact hj) e, fun k q hq => hD.2 k q (by rw [List.getElem?_append_left (List.getElem?_eq_some_iff.mp hq).1]; exact hq)⟩
  have hF : ∀ q, va_A wc H.size q → A q := sg_cutP_free hD (fun q h => C.2.2.2.2.2.2.1 q (Nat.le_trans hS.1 h))
  refine ⟨rfl, by rw [hU], by rw [hU]; exact hPc, va_K.moved hW.alike C.2.2.2.2.2.1, hDc.weaken (fun _ _ _ _ => trivial), ?_⟩
  have z1 := C.2.2.2.2.2.2.2.2.1
  have z2 := C.2.2.2.2.2.2.2.1.1 _ _ _ _ hW z1
  have z3 := C.2.2.2.2.2.2.2.1.2.1 _ _ _ H z2 (fun a h1 h2 => hS.2.1 a h1 h2)
  rw [hU]
  exact C.2.2.2.2.2.2.2.1.2.2.1 _ _ _ _ z3 (fun q h => hF q h)
theorem sg_backP (C : sg_C p R s m args meth c cc nL own Ts D Y Z A) {wc wr w1 w2 : va_W} (hp : (wr ++ w1).Perm w2) {H H1 : Heap} {locs : List Loc} (hP : va_P D vwCl (wc ++ wr) H) (hD : va_D A (wc ++ wr)) (hS : va_S A s.heap H locs) {t : State} (ht : t.heap = H1) (hB : sg_post D Y wc w1 H.size t) (hk : ∀ q : Nat, q < H.size → ¬ va_A wc H.size q → H1[q]? = H[q]?) : va_P D vwCl w2 H1 ∧ va_D A w2 := by
  obtain ⟨hP1, hK1, hD1⟩ := hB
  rw [ht] at hP1
  have hF : ∀ q, va_A wc H.size q → A q := sg_cutP_free hD (fun q h => C.2.2.2.2.2.2.1 q (Nat.le_trans hS.1 h))
  have at' : ∀ (k : Nat) (q : Nat × va_E), wr[k]? = some q → (wc ++ wr)[wc.length + k]? = some q := fun k q hq => by
    rw [List.getElem?_append_right (Nat.le_add_right _ _), Nat.add_sub_cancel_left]
    exact hq
  have apart : ∀ (k : Nat) (q : Nat × va_E), wr[k]? = some q → q.1 < H.size ∧ ¬ va_A wc H.size q.1 := by
    intro k q hq
    have h2 := at' k q hq
    have hl := (hP _ q h2).lt
    refine ⟨hl, fun h => ?_⟩
    rcases h with ⟨k2, e, h⟩ | h
    · have l2 : k2 < wc.length := (List.getElem?_eq_some_iff.mp h).1
      have := hD.1 _ _ q (q.1, e) h2 (by rw [List.getElem?_append_left l2]; exact h) rfl
      omega
    · omega
  have b1 : va_P D vwCl (wr ++ w1) H1 := va_P.app (fun k q hq => (hP _ q (at' k q hq)).kept (hk q.1 (apart k q hq).1 (apart k q hq).2)) hP1
  have b2 : va_D A (wr ++ w1) := va_D.app ⟨fun i j x y hi hj e => by
      have := hD.1 _ _ x y (at' i x hi) (at' j y hj) e
      omega, fun k q hq => hD.2 _ q (at' k q hq)⟩ (hD1.weaken (fun k q _ h => hF q.1 h)) (fun i j x y hx hy hxy => (apart i x hx).2 (by rw [hxy]; exact hD1.2 j y hy))
  exact ⟨sg_permP hp b1, sg_permD hp b2⟩
theorem g_callViP (n : Nat) (C : sg_C p R s m args meth c cc nL own Ts D Y Z A) {y : MethodName} {bytes : ByteArray} {maxL n0 index : Nat} {ret : Option FieldType} {ws ws' : List Cond} {fr lo : Nat} {As : List Value} {wc w1 w2 : va_W} {C2 : String} {b : Nat} {q0 ci : Nat} {T : u_T} {N : Nat} {fs : List Value} {r : Int32} (hM : sg_MI l y ws fr lo D Y Z (.ref b :: As) wc r w1) (hG : GoodIn Ts (wsV own index C2 y ws)) (hd : y.cls = C2 ∧ y.cls ≠ "java/lang/invoke/MethodHandle" ∧ y.cls ≠ "java/lang/invoke/VarHandle" ∧ (parseMethodDescriptor y.desc).map (fun d => d.parameters.length) = some n0) (hw0 : ws = Cond.code y bytes maxL ret :: ws') (hR : fr + 1 ≤ R.frames ∧ 8 + (maxL + 11) + lo ≤ R.locals) (hrc : vwCl[ci]? = some (C2, T, N)) (hre : w[q0]? = some (b, .inr (ci, fs))) (hcut : sg_cutP w wc w1 w2) (hlen : As.length = n0) (hroom : (st.map fun v => v.category).sum ≤ 8) (hcs : cells ≤ R.cells ∧ slots ≤ R.slots) (hdg : decode cc pc = .ok (.invokevirtual index, 3)) (hn : pc + 3 = n) {stk : List Value} (hstk : stk = As.reverse ++ .ref b :: st) (kk : sg_G p l e R s m args below meth c D A nL cells slots Q n lv (.int r :: st) w2) : sg_G p l e R s m args below meth c D A nL cells slots Q pc lv stk w := by
  subst hn
  subst hstk
  intro H locs ls hP hD hS hh
  obtain ⟨wr, hp1, hp2⟩ := hcut
  have hPp := sg_permP hp1 hP
  have hDp := sg_permD hp1 hD
  have hF : ∀ q, va_A wc H.size q → A q := sg_cutP_free hDp (fun q h => C.2.2.2.2.2.2.1 q (Nat.le_trans hS.1 h))
  refine va_calli (va_runV (C := C2) (b := b) (As := As) (rest := st) ⟨C.1, C.2.1, C.2.2.1, C.2.2.2.1, C.2.2.2.2.1⟩ (hM H.size) (cwV n0 C.2.2.2.2.1 hG hw0 rfl rfl hd hR) ⟨sg_blind C.2.2.2.2.2.2.2.1, va_recv C.2.2.2.2.2.1 hP hrc hre, sg_preP_of C hPp hDp hS⟩ rfl hlen hh.1 rfl (lv_room hroom) hdg hcs) hS (fun q _ h => hF q h) hF (fun r1 u t H1 locs1 ht hvm hw hB hz1 hk1 hS1 => ?_)
  have hw : r1 = r := hw
  subst hw
  obtain ⟨b1, b2⟩ := sg_backP C hp2 hPp hDp hS ht hB hk1
  exact kk H1 locs1 ls b1 b2 hS1 hh
theorem g_callVvP (n : Nat) (C : sg_C p R s m args meth c cc nL own Ts D Y Z A) {y : MethodName} {bytes : ByteArray} {maxL n0 index : Nat} {ret : Option FieldType} {ws ws' : List Cond} {fr lo : Nat} {As : List Value} {wc w1 w2 : va_W} {C2 : String} {b : Nat} {q0 ci : Nat} {T : u_T} {N : Nat} {fs : List Value} (hM : sg_MV l y ws fr lo D Y Z (.ref b :: As) wc w1) (hG : GoodIn Ts (wsV own index C2 y ws)) (hd : y.cls = C2 ∧ y.cls ≠ "java/lang/invoke/MethodHandle" ∧ y.cls ≠ "java/lang/invoke/VarHandle" ∧ (parseMethodDescriptor y.desc).map (fun d => d.parameters.length) = some n0) (hw0 : ws = Cond.code y bytes maxL ret :: ws') (hR : fr + 1 ≤ R.frames ∧ 8 + (maxL + 11) + lo ≤ R.locals) (hrc : vwCl[ci]? = some (C2, T, N)) (hre : w[q0]? = some (b, .inr (ci, fs))) (hcut : sg_cutP w wc w1 w2) (hlen : As.length = n0) (hroom : (st.map fun v => v.category).sum ≤ 8) (hcs : cells ≤ R.cells ∧ slots ≤ R.slots) (hdg : decode cc pc = .ok (.invokevirtual index, 3)) (hn : pc + 3 = n) {stk : List Value} (hstk : stk = As.reverse ++ .ref b :: st) (kk : sg_G p l e R s m args below meth c D A nL cells slots Q n lv st w2) : sg_G p l e R s m args below meth c D A nL cells slots Q pc lv stk w := by
  subst hn
  subst hstk
  intro H locs ls hP hD hS hh
  obtain ⟨wr, hp1, hp2⟩ := hcut
  have hPp := sg_permP hp1 hP
  have hDp := sg_permD hp1 hD
  have hF : ∀ q, va_A wc H.size q → A q := sg_cutP_free hDp (fun q h => C.2.2.2.2.2.2.1 q (Nat.le_trans hS.1 h))
  refine va_callv (va_runV (C := C2) (b := b) (As := As) (rest := st) ⟨C.1, C.2.1, C.2.2.1, C.2.2.2.1, C.2.2.2.2.1⟩ (hM H.size) (cwV n0 C.2.2.2.2.1 hG hw0 rfl rfl hd hR) ⟨sg_blind C.2.2.2.2.2.2.2.1, va_recv C.2.2.2.2.2.1 hP hrc hre, sg_preP_of C hPp hDp hS⟩ rfl hlen hh.1 rfl (lv_room hroom) hdg hcs) hS (fun q _ h => hF q h) hF (fun u t H1 locs1 ht hvm hw hB hz1 hk1 hS1 => ?_)
  obtain ⟨b1, b2⟩ := sg_backP C hp2 hPp hDp hS ht hB hk1
  exact kk H1 locs1 ls b1 b2 hS1 hh
end SGP
/-- the blocks of the ministry's world -/
def bk_7 (Y : Nat → ClassId) (ad : Nat → Nat) (σ : sg_S) (i : Nat) : va_W := match i with
  | 0 => [(ad 0, .inr (9, [.ref (ad 1), .ref (ad 15), .ref (ad 28), .ref (ad 41), .int (σ 0 4), .ref (ad 54), .ref (ad 160), .ref (ad 177), .ref (ad 14), .int (σ 0 9)]))]
  | 1 => ww_X3 Y (sg_e1 1 ad) (sg_e1 1 σ)
  | 2 => ww_X4 Y (sg_e1 14 ad) (sg_e1 14 σ)
  | 3 => ww_X3 Y (sg_e1 15 ad) (sg_e1 15 σ)
  | 4 => ww_X3 Y (sg_e1 28 ad) (sg_e1 28 σ)
  | 5 => ww_X3 Y (sg_e1 41 ad) (sg_e1 41 σ)
  | 6 => [(ad 54, .inr (4, [.int (σ 54 0), .int (σ 54 1), .ref (ad 55)]))]
  | 7 => [(ad 55, .inl (Y 2, 8, .inr (.inr (.inr (.inr (fun i => some (ad (56 + 13 * i))))))))]
  | 8 => ww_X3 Y (sg_e1 56 ad) (sg_e1 56 σ)
  | 9 => ww_X3 Y (sg_e1 69 ad) (sg_e1 69 σ)
  | 10 => ww_X3 Y (sg_e1 82 ad) (sg_e1 82 σ)
  | 11 => ww_X3 Y (sg_e1 95 ad) (sg_e1 95 σ)
  | 12 => ww_X3 Y (sg_e1 108 ad) (sg_e1 108 σ)
  | 13 => ww_X3 Y (sg_e1 121 ad) (sg_e1 121 σ)
  | 14 => ww_X3 Y (sg_e1 134 ad) (sg_e1 134 σ)
  | 15 => ww_X3 Y (sg_e1 147 ad) (sg_e1 147 σ)
  | 16 => [(ad 160, .inr (7, [.ref (ad 161), .int (σ 160 1), .int (σ 160 2), .ref (ad 163), .ref (ad 164)]))]
  | 17 => ww_J4 Y (sg_e1 161 ad) (sg_e1 161 σ)
  | 18 => [(ad 163, .inl (Y 0, 12, .inl (σ 163))), (ad 164, .inl (Y 3, 12, .inr (.inr (.inr (.inr (fun i => some (ad (165 + 1 * i)))))))), (ad 165, .inl (Y 0, 3, .inl (σ 165))), (ad 166, .inl (Y 0, 3, .inl (σ 166))), (ad 167, .inl (Y 0, 3, .inl (σ 167))), (ad 168, .inl (Y 0, 3, .inl (σ 168))), (ad 169, .inl (Y 0, 3, .inl (σ 169))), (ad 170, .inl (Y 0, 3, .inl (σ 170))), (ad 171, .inl (Y 0, 3, .inl (σ 171))), (ad 172, .inl (Y 0, 3, .inl (σ 172))), (ad 173, .inl (Y 0, 3, .inl (σ 173))), (ad 174, .inl (Y 0, 3, .inl (σ 174))), (ad 175, .inl (Y 0, 3, .inl (σ 175))), (ad 176, .inl (Y 0, 3, .inl (σ 176)))]
  | _ => ww_J4 Y (sg_e1 177 ad) (sg_e1 177 σ)
/-- the blocks of a history with one realm beside it -/
def bk_2 (Y : Nat → ClassId) (ad : Nat → Nat) (σ : sg_S) (i : Nat) : va_W := match i with
  | 0 => [(ad 0, .inr (4, [.int (σ 0 0), .int (σ 0 1), .ref (ad 1)])), (ad 1, .inl (Y 2, 8, .inr (.inr (.inr (.inr (fun i => some (ad (2 + 13 * i))))))))]
  | 1 => ww_X3 Y (sg_e1 2 ad) (sg_e1 2 σ)
  | 2 => ww_X3 Y (sg_e1 15 ad) (sg_e1 15 σ)
  | 3 => ww_X3 Y (sg_e1 28 ad) (sg_e1 28 σ)
  | 4 => ww_X3 Y (sg_e1 41 ad) (sg_e1 41 σ)
  | 5 => ww_X3 Y (sg_e1 54 ad) (sg_e1 54 σ)
  | 6 => ww_X3 Y (sg_e1 67 ad) (sg_e1 67 σ)
  | 7 => ww_X3 Y (sg_e1 80 ad) (sg_e1 80 σ)
  | 8 => ww_X3 Y (sg_e1 93 ad) (sg_e1 93 σ)
  | _ => ww_X3 Y (sg_e1 106 ad) (sg_e1 106 σ)
