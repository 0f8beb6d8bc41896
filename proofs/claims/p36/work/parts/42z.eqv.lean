/-! WORLDS ALIKE: rows of references that differ only behind their ends -/
theorem sg_arrV {cA : ClassId} {n : Nat} {f f2 : Nat → Value} (h : ∀ i, i < n → f i = f2 i) : arrV cA n f = arrV cA n f2 := by
  have e : (fun j : Fin n => f j.val) = (fun j : Fin n => f2 j.val) := funext (fun j => h j.val j.isLt)
  unfold arrV
  rw [e]
def sg_eqw (w w2 : va_W) : Prop := (∀ (D : va_G) (cl : List vw_C) (H : Heap), va_P D cl w H ↔ va_P D cl w2 H) ∧ w.map (fun q => q.1) = w2.map (fun q => q.1)
theorem sg_Pcons {D : va_G} {cl : List vw_C} {x : Nat × va_E} {r : va_W} {H : Heap} : va_P D cl (x :: r) H ↔ va_at D cl x H ∧ va_P D cl r H := by
  constructor
  · intro h
    exact ⟨h 0 x rfl, fun k q hq => h (k + 1) q hq⟩
  · intro h k q hq
    cases k with
    | zero =>
      have e : x = q := Option.some.inj hq
      rw [← e]
      exact h.1
    | succ k => exact h.2 k q hq
theorem sg_eqRefl (w : va_W) : sg_eqw w w := ⟨fun _ _ _ => Iff.rfl, rfl⟩
theorem sg_eqCons {x : Nat × va_E} {w w2 : va_W} (h : sg_eqw w w2) : sg_eqw (x :: w) (x :: w2) := by
  refine ⟨fun D cl H => ?_, ?_⟩
  · rw [sg_Pcons, sg_Pcons, h.1 D cl H]
  · rw [List.map_cons, List.map_cons, h.2]
theorem sg_eqRow {a : Nat} {c : ClassId} {n : Nat} {f f2 : Nat → Option Nat} {r : va_W} (h : ∀ i, i < n → f i = f2 i) : sg_eqw ((a, .inl (c, n, .inr (.inr (.inr (.inr f))))) :: r) ((a, .inl (c, n, .inr (.inr (.inr (.inr f2))))) :: r) := by
  have e : vp_cell c (n, .inr (.inr (.inr (.inr f)))) = vp_cell c (n, .inr (.inr (.inr (.inr f2)))) := by
    rw [vp_cell_q, vp_cell_q]
    exact sg_arrV (fun i hi => by rw [h i hi])
  refine ⟨fun D cl H => ?_, rfl⟩
  rw [sg_Pcons, sg_Pcons]
  have e2 : va_at D cl (a, .inl (c, n, .inr (.inr (.inr (.inr f))))) H = va_at D cl (a, .inl (c, n, .inr (.inr (.inr (.inr f2))))) H := by
    show (H[a]? = some (vp_cell c (n, .inr (.inr (.inr (.inr f)))))) = (H[a]? = some (vp_cell c (n, .inr (.inr (.inr (.inr f2))))))
    rw [e]
  rw [e2]
theorem sg_eqD {A : Nat → Prop} {w w2 : va_W} (h : w.map (fun q => q.1) = w2.map (fun q => q.1)) (hD : va_D A w) : va_D A w2 := by
  refine sg_ofnodup (by rw [← h]; exact sg_nodup hD) (fun q hq => ?_)
  have h1 : q.1 ∈ w.map (fun q => q.1) := by
    rw [h]
    exact List.mem_map.mpr ⟨q, hq, rfl⟩
  obtain ⟨q0, h0, e0⟩ := List.mem_map.mp h1
  obtain ⟨i, hi⟩ := List.getElem?_of_mem h0
  have h2 := hD.2 i q0 hi
  rw [e0] at h2
  exact h2
theorem sg_eqA {w w2 : va_W} (h : w.map (fun q => q.1) = w2.map (fun q => q.1)) (sz : Nat) : va_A w sz = va_A w2 sz := by
  have k : ∀ (v : va_W) (x : Nat), (∃ (k : Nat) (e : va_E), v[k]? = some (x, e)) ↔ x ∈ v.map (fun q => q.1) := by
    intro v x
    constructor
    · intro hx
      obtain ⟨k, e, h1⟩ := hx
      exact List.mem_map.mpr ⟨(x, e), List.mem_of_getElem? h1, rfl⟩
    · intro hx
      obtain ⟨q, hq, e⟩ := List.mem_map.mp hx
      obtain ⟨i, hi⟩ := List.getElem?_of_mem hq
      refine ⟨i, q.2, ?_⟩
      rw [hi, ← e]
  funext x
  apply propext
  unfold va_A
  rw [k w x, k w2 x, h]
theorem sg_eqPre {D : va_G} {Y : Nat → ClassId} {Z : (Nat → Prop) → State → Heap → Prop} {w w2 : va_W} (e : sg_eqw w w2) (sz : Nat) : sg_pre D Y Z w sz = sg_pre D Y Z w2 sz := by
  funext U
  apply propext
  unfold sg_pre
  rw [sg_eqA e.2 sz, e.1 D vwCl U.heap]
  constructor
  · intro h
    exact ⟨h.1, h.2.1, h.2.2.1, sg_eqD e.2 h.2.2.2.1, h.2.2.2.2⟩
  · intro h
    exact ⟨h.1, h.2.1, h.2.2.1, sg_eqD e.2.symm h.2.2.2.1, h.2.2.2.2⟩
theorem sg_eqPost {D : va_G} {Y : Nat → ClassId} {w w2 v v2 : va_W} (e : sg_eqw w w2) (e2 : sg_eqw v v2) (sz : Nat) : sg_post D Y w v sz = sg_post D Y w2 v2 sz := by
  funext U
  apply propext
  unfold sg_post
  rw [sg_eqA e.2 sz, e2.1 D vwCl U.heap]
  constructor
  · intro h
    exact ⟨h.1, h.2.1, sg_eqD e2.2 h.2.2⟩
  · intro h
    exact ⟨h.1, h.2.1, sg_eqD e2.2.symm h.2.2⟩
theorem sg_MVe {l : Launch} {y : MethodName} {ws : List Cond} {fr lo : Nat} {D : va_G} {Y : Nat → ClassId} {Z : (Nat → Prop) → State → Heap → Prop} {av : List Value} {w w2 v v2 : va_W} (hM : sg_MV l y ws fr lo D Y Z av w v) (e : sg_eqw w w2) (e2 : sg_eqw v v2) : sg_MV l y ws fr lo D Y Z av w2 v2 := by
  intro sz
  have h := hM sz
  rw [sg_eqPre e sz, sg_eqPost e e2 sz, sg_eqA e.2 sz] at h
  exact h
theorem sg_MIe {l : Launch} {y : MethodName} {ws : List Cond} {fr lo : Nat} {D : va_G} {Y : Nat → ClassId} {Z : (Nat → Prop) → State → Heap → Prop} {av : List Value} {w w2 v v2 : va_W} {r : Int32} (hM : sg_MI l y ws fr lo D Y Z av w r v) (e : sg_eqw w w2) (e2 : sg_eqw v v2) : sg_MI l y ws fr lo D Y Z av w2 r v2 := by
  intro sz
  have h := hM sz
  rw [sg_eqPre e sz, sg_eqPost e e2 sz, sg_eqA e.2 sz] at h
  exact h
theorem sg_rowH (ad : Nat → Nat) (o : Nat) : ∀ i, i < 8 → (fun i => some (sg_e2 106 54 o ad (2 + 13 * i))) i = (fun i => some (ad (56 + 13 * i))) i := by
  intro i hi
  rcases sg_lt8 hi with rfl | rfl | rfl | rfl | rfl | rfl | rfl | rfl <;> rfl
theorem sg_rowT (ad : Nat → Nat) : ∀ i, i < 12 → (fun i => some (sg_e1 160 ad (5 + 1 * i))) i = (fun i => some (ad (165 + 1 * i))) i := by
  intro i _
  show some (ad (160 + (5 + 1 * i))) = some (ad (165 + 1 * i))
  rw [(by omega : 160 + (5 + 1 * i) = 165 + 1 * i)]
