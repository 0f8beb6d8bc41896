/-! THE LAW: its world, rows of its own, the cuts of its calls -/
def kb_TN (q : Nat) : Bool := Nat.ble q 13
def kb_TNR (q : Nat) : Bool := Nat.ble q 13 || (Nat.ble 28 q && Nat.ble q 40)
def kb_TNLBH (q : Nat) : Bool := Nat.ble q 27 || (Nat.ble 54 q && Nat.ble q 159)
def kb_TNLBHX (q : Nat) : Bool := Nat.ble q 27 || (Nat.ble 54 q && Nat.ble q 176)
def kb_TNH (q : Nat) : Bool := Nat.ble q 13 || (Nat.ble 54 q && Nat.ble q 159)
def kb_TNS (q : Nat) : Bool := Nat.ble q 13 || (Nat.ble 41 q && Nat.ble q 53)
def kb_TNSh (q : Nat) : Bool := Nat.ble q 13 || (Nat.ble 41 q && Nat.ble q 54)
def kb_TNI (q : Nat) : Bool := Nat.ble q 13 || (Nat.ble 177 q && Nat.ble q 178)
def kb_Tx (q : Nat) : Bool := Nat.ble q 0 || (Nat.ble 160 q && Nat.ble q 162)
def bk_L (Y : Nat → ClassId) (ad : Nat → Nat) (σ : sg_S) (X : va_W) (i : Nat) : va_W := cond (Nat.beq i 20) X (bk_7 Y ad σ i)
def ids_L : List Nat := [20, 0, 1, 2, 3, 4, 5, 6, 7, 8, 9, 10, 11, 12, 13, 14, 15, 16, 17, 18, 19]
def sl_w (Y : Nat → ClassId) (ad : Nat → Nat) (σ : sg_S) (X : va_W) : va_W := ids_L.flatMap (bk_L Y ad σ X)
theorem sl_ua {ad : Nat → Nat} {p q k : Nat} (h : k ≠ p) : sg_ua ad p q k = ad k := by
  unfold sg_ua
  cases hb : Nat.beq k p with
  | false => rfl
  | true => exact absurd (Nat.eq_of_beq_eq_true hb) h
theorem sg_eqFlat {f f2 : Nat → va_W} : ∀ is : List Nat, (∀ i ∈ is, sg_eqw (f i) (f2 i)) → sg_eqw (is.flatMap f) (is.flatMap f2) := by
  intro is
  induction is with
  | nil => exact fun _ => sg_eqRefl _
  | cons i r ih =>
    intro h
    rw [List.flatMap_cons, List.flatMap_cons]
    exact sg_eqApp (h i List.mem_cons_self) (ih (fun j hj => h j (List.mem_cons_of_mem _ hj)))
theorem cut_X {S : Type} {w wc : va_W} {w1 : S → va_W} (f : Nat → va_W) (ids isC isR : List Nat) (hw : w = ids.flatMap f) (hp : ids.Perm (isC ++ isR)) (hc : wc = isC.flatMap f) : ∃ wr : va_W, w.Perm (wc ++ wr) ∧ ∀ u : S, (wr ++ w1 u).Perm (isR.flatMap f ++ w1 u) :=
  ⟨isR.flatMap f, by rw [hw, hc, ← List.flatMap_append]; exact hp.flatMap_right f, fun _ => List.Perm.refl _⟩
theorem cut_back {w2 w1 : va_W} (f2 : Nat → va_W) (ids isC isR : List Nat) (hp : ids.Perm (isC ++ isR)) (hc : w1 = isC.flatMap f2) (h2 : w2 = ids.flatMap f2) : (isR.flatMap f2 ++ w1).Perm w2 := by
  rw [hc, h2, ← List.flatMap_append]
  exact (List.perm_append_comm.trans hp.symm).flatMap_right f2
section CUTS
variable (Y : Nat → ClassId) (ad : Nat → Nat) (σ σ2 : sg_S) (X : va_W)
set_option maxRecDepth 20000 in
theorem cut_rTNLBH : sg_cutP (sl_w Y ad σ X) (ww_X7TNLBH Y ad σ) (ww_X7TNLBH Y ad σ) (sl_w Y ad σ X) := sg_cutB (bk_L Y ad σ X) (bk_L Y ad σ X) ids_L [0, 1, 2, 3, 6, 7, 8, 9, 10, 11, 12, 13, 14, 15] [20, 4, 5, 16, 17, 18, 19] rfl (by decide) rfl rfl rfl rfl
set_option maxRecDepth 20000 in
theorem cut_TNLBH : sg_cutP (sl_w Y ad σ X) (ww_X7TNLBH Y ad σ) (ww_X7TNLBH Y ad σ2) (sl_w Y ad (sg_mg kb_TNLBH σ σ2) X) := sg_cutB (bk_L Y ad σ X) (bk_L Y ad (sg_mg kb_TNLBH σ σ2) X) ids_L [0, 1, 2, 3, 6, 7, 8, 9, 10, 11, 12, 13, 14, 15] [20, 4, 5, 16, 17, 18, 19] rfl (by decide) rfl rfl rfl rfl
set_option maxRecDepth 20000 in
theorem cut_rTN : sg_cutP (sl_w Y ad σ X) (ww_X7TN Y ad σ) (ww_X7TN Y ad σ) (sl_w Y ad σ X) := sg_cutB (bk_L Y ad σ X) (bk_L Y ad σ X) ids_L [0, 1] [20, 2, 3, 4, 5, 6, 7, 8, 9, 10, 11, 12, 13, 14, 15, 16, 17, 18, 19] rfl (by decide) rfl rfl rfl rfl
set_option maxRecDepth 20000 in
theorem cut_TN : sg_cutP (sl_w Y ad σ X) (ww_X7TN Y ad σ) (ww_X7TN Y ad σ2) (sl_w Y ad (sg_mg kb_TN σ σ2) X) := sg_cutB (bk_L Y ad σ X) (bk_L Y ad (sg_mg kb_TN σ σ2) X) ids_L [0, 1] [20, 2, 3, 4, 5, 6, 7, 8, 9, 10, 11, 12, 13, 14, 15, 16, 17, 18, 19] rfl (by decide) rfl rfl rfl rfl
set_option maxRecDepth 20000 in
theorem cut_rTNR : sg_cutP (sl_w Y ad σ X) (ww_X7TNR Y ad σ) (ww_X7TNR Y ad σ) (sl_w Y ad σ X) := sg_cutB (bk_L Y ad σ X) (bk_L Y ad σ X) ids_L [0, 1, 4] [20, 2, 3, 5, 6, 7, 8, 9, 10, 11, 12, 13, 14, 15, 16, 17, 18, 19] rfl (by decide) rfl rfl rfl rfl
set_option maxRecDepth 20000 in
theorem cut_TNR : sg_cutP (sl_w Y ad σ X) (ww_X7TNR Y ad σ) (ww_X7TNR Y ad σ2) (sl_w Y ad (sg_mg kb_TNR σ σ2) X) := sg_cutB (bk_L Y ad σ X) (bk_L Y ad (sg_mg kb_TNR σ σ2) X) ids_L [0, 1, 4] [20, 2, 3, 5, 6, 7, 8, 9, 10, 11, 12, 13, 14, 15, 16, 17, 18, 19] rfl (by decide) rfl rfl rfl rfl
set_option maxRecDepth 20000 in
theorem cut_rTNhx : sg_cutP (sl_w Y ad σ X) (ww_X7TNhx Y ad σ) (ww_X7TNhx Y ad σ) (sl_w Y ad σ X) := sg_cutB (bk_L Y ad σ X) (bk_L Y ad σ X) ids_L [0, 1, 6, 16, 17] [20, 2, 3, 4, 5, 7, 8, 9, 10, 11, 12, 13, 14, 15, 18, 19] rfl (by decide) rfl rfl rfl rfl
set_option maxRecDepth 20000 in
theorem cut_rTNI : sg_cutP (sl_w Y ad σ X) (ww_X7TNI Y ad σ) (ww_X7TNI Y ad σ) (sl_w Y ad σ X) := sg_cutB (bk_L Y ad σ X) (bk_L Y ad σ X) ids_L [0, 1, 19] [20, 2, 3, 4, 5, 6, 7, 8, 9, 10, 11, 12, 13, 14, 15, 16, 17, 18] rfl (by decide) rfl rfl rfl rfl
set_option maxRecDepth 20000 in
theorem cut_rTI : sg_cutP (sl_w Y ad σ X) (ww_X7TI Y ad σ) (ww_X7TI Y ad σ) (sl_w Y ad σ X) := sg_cutB (bk_L Y ad σ X) (bk_L Y ad σ X) ids_L [0, 19] [20, 1, 2, 3, 4, 5, 6, 7, 8, 9, 10, 11, 12, 13, 14, 15, 16, 17, 18] rfl (by decide) rfl rfl rfl rfl
set_option maxRecDepth 20000 in
theorem cut_rTx : sg_cutP (sl_w Y ad σ X) (ww_X7Tx Y ad σ) (ww_X7Tx Y ad σ) (sl_w Y ad σ X) := sg_cutB (bk_L Y ad σ X) (bk_L Y ad σ X) ids_L [0, 16, 17] [20, 1, 2, 3, 4, 5, 6, 7, 8, 9, 10, 11, 12, 13, 14, 15, 18, 19] rfl (by decide) rfl rfl rfl rfl
set_option maxRecDepth 20000 in
theorem cut_rTNLBHX : sg_cutP (sl_w Y ad σ X) (ww_X7TNLBHX Y ad σ) (ww_X7TNLBHX Y ad σ) (sl_w Y ad σ X) := sg_cutB (bk_L Y ad σ X) (bk_L Y ad σ X) ids_L [0, 1, 2, 3, 6, 7, 8, 9, 10, 11, 12, 13, 14, 15, 16, 17, 18] [20, 4, 5, 19] rfl (by decide) rfl rfl rfl rfl
set_option maxRecDepth 20000 in
theorem cut_TNLBHX : sg_cutP (sl_w Y ad σ X) (ww_X7TNLBHX Y ad σ) (ww_X7TNLBHX Y ad σ2) (sl_w Y ad (sg_mg kb_TNLBHX σ σ2) X) := sg_cutB (bk_L Y ad σ X) (bk_L Y ad (sg_mg kb_TNLBHX σ σ2) X) ids_L [0, 1, 2, 3, 6, 7, 8, 9, 10, 11, 12, 13, 14, 15, 16, 17, 18] [20, 4, 5, 19] rfl (by decide) rfl rfl rfl rfl
set_option maxRecDepth 20000 in
theorem cut_rT : sg_cutP (sl_w Y ad σ X) (ww_X7T Y ad σ) (ww_X7T Y ad σ) (sl_w Y ad σ X) := sg_cutB (bk_L Y ad σ X) (bk_L Y ad σ X) ids_L [0] [20, 1, 2, 3, 4, 5, 6, 7, 8, 9, 10, 11, 12, 13, 14, 15, 16, 17, 18, 19] rfl (by decide) rfl rfl rfl rfl
set_option maxRecDepth 20000 in
theorem cut_rTL : sg_cutP (sl_w Y ad σ X) (ww_X7TL Y ad σ) (ww_X7TL Y ad σ) (sl_w Y ad σ X) := sg_cutB (bk_L Y ad σ X) (bk_L Y ad σ X) ids_L [0, 2] [20, 1, 3, 4, 5, 6, 7, 8, 9, 10, 11, 12, 13, 14, 15, 16, 17, 18, 19] rfl (by decide) rfl rfl rfl rfl
set_option maxRecDepth 20000 in
theorem cut_rTNH : sg_cutP (sl_w Y ad σ X) (ww_X7TNH Y ad σ) (ww_X7TNH Y ad σ) (sl_w Y ad σ X) := sg_cutB (bk_L Y ad σ X) (bk_L Y ad σ X) ids_L [0, 1, 6, 7, 8, 9, 10, 11, 12, 13, 14, 15] [20, 2, 3, 4, 5, 16, 17, 18, 19] rfl (by decide) rfl rfl rfl rfl
set_option maxRecDepth 20000 in
theorem cut_TNH : sg_cutP (sl_w Y ad σ X) (ww_X7TNH Y ad σ) (ww_X7TNH Y ad σ2) (sl_w Y ad (sg_mg kb_TNH σ σ2) X) := sg_cutB (bk_L Y ad σ X) (bk_L Y ad (sg_mg kb_TNH σ σ2) X) ids_L [0, 1, 6, 7, 8, 9, 10, 11, 12, 13, 14, 15] [20, 2, 3, 4, 5, 16, 17, 18, 19] rfl (by decide) rfl rfl rfl rfl
set_option maxRecDepth 20000 in
theorem cut_rTNS : sg_cutP (sl_w Y ad σ X) (ww_X7TNS Y ad σ) (ww_X7TNS Y ad σ) (sl_w Y ad σ X) := sg_cutB (bk_L Y ad σ X) (bk_L Y ad σ X) ids_L [0, 1, 5] [20, 2, 3, 4, 6, 7, 8, 9, 10, 11, 12, 13, 14, 15, 16, 17, 18, 19] rfl (by decide) rfl rfl rfl rfl
set_option maxRecDepth 20000 in
theorem cut_TNS : sg_cutP (sl_w Y ad σ X) (ww_X7TNS Y ad σ) (ww_X7TNS Y ad σ2) (sl_w Y ad (sg_mg kb_TNS σ σ2) X) := sg_cutB (bk_L Y ad σ X) (bk_L Y ad (sg_mg kb_TNS σ σ2) X) ids_L [0, 1, 5] [20, 2, 3, 4, 6, 7, 8, 9, 10, 11, 12, 13, 14, 15, 16, 17, 18, 19] rfl (by decide) rfl rfl rfl rfl
set_option maxRecDepth 20000 in
theorem cut_rTNSh : sg_cutP (sl_w Y ad σ X) (ww_X7TNSh Y ad σ) (ww_X7TNSh Y ad σ) (sl_w Y ad σ X) := sg_cutB (bk_L Y ad σ X) (bk_L Y ad σ X) ids_L [0, 1, 5, 6] [20, 2, 3, 4, 7, 8, 9, 10, 11, 12, 13, 14, 15, 16, 17, 18, 19] rfl (by decide) rfl rfl rfl rfl
set_option maxRecDepth 20000 in
theorem cut_TNSh : sg_cutP (sl_w Y ad σ X) (ww_X7TNSh Y ad σ) (ww_X7TNSh Y ad σ2) (sl_w Y ad (sg_mg kb_TNSh σ σ2) X) := sg_cutB (bk_L Y ad σ X) (bk_L Y ad (sg_mg kb_TNSh σ σ2) X) ids_L [0, 1, 5, 6] [20, 2, 3, 4, 7, 8, 9, 10, 11, 12, 13, 14, 15, 16, 17, 18, 19] rfl (by decide) rfl rfl rfl rfl
def isR_TNI : List Nat := [20, 2, 3, 4, 5, 6, 7, 8, 9, 10, 11, 12, 13, 14, 15, 16, 17, 18]
set_option maxRecDepth 20000 in
theorem cut_TNI : ∃ wr : va_W, (sl_w Y ad σ X).Perm (ww_X7TNI Y ad σ ++ wr) ∧ ∀ q : Nat, (wr ++ ww_X7TNI Y (sg_ua ad 178 q) σ2).Perm (isR_TNI.flatMap (bk_L Y ad σ X) ++ ww_X7TNI Y (sg_ua ad 178 q) σ2) := cut_X (bk_L Y ad σ X) ids_L [0, 1, 19] isR_TNI rfl (by decide) rfl
set_option maxRecDepth 20000 in
theorem eq_TNI (q : Nat) : sg_eqw (isR_TNI.flatMap (bk_L Y ad σ X)) (isR_TNI.flatMap (bk_L Y (sg_ua ad 178 q) (sg_mg kb_TNI σ σ2) X)) := by
  refine sg_eqFlat _ ?_
  exact List.forall_mem_cons.mpr ⟨sg_eqRefl _, List.forall_mem_cons.mpr ⟨sg_eqRefl _, List.forall_mem_cons.mpr ⟨sg_eqRefl _, List.forall_mem_cons.mpr ⟨sg_eqRefl _, List.forall_mem_cons.mpr ⟨sg_eqRefl _, List.forall_mem_cons.mpr ⟨sg_eqRefl _, List.forall_mem_cons.mpr ⟨sg_eqRow (fun i hi => by show some (ad _) = some (sg_ua ad 178 q _); rw [sl_ua (by omega)]), List.forall_mem_cons.mpr ⟨sg_eqRefl _, List.forall_mem_cons.mpr ⟨sg_eqRefl _, List.forall_mem_cons.mpr ⟨sg_eqRefl _, List.forall_mem_cons.mpr ⟨sg_eqRefl _, List.forall_mem_cons.mpr ⟨sg_eqRefl _, List.forall_mem_cons.mpr ⟨sg_eqRefl _, List.forall_mem_cons.mpr ⟨sg_eqRefl _, List.forall_mem_cons.mpr ⟨sg_eqRefl _, List.forall_mem_cons.mpr ⟨sg_eqRefl _, List.forall_mem_cons.mpr ⟨sg_eqRefl _, List.forall_mem_cons.mpr ⟨sg_eqCons (sg_eqRow (fun i hi => by show some (ad _) = some (sg_ua ad 178 q _); rw [sl_ua (by omega)])), fun _ h => absurd h List.not_mem_nil⟩⟩⟩⟩⟩⟩⟩⟩⟩⟩⟩⟩⟩⟩⟩⟩⟩⟩
set_option maxRecDepth 20000 in
theorem bk_TNI (q : Nat) : (isR_TNI.flatMap (bk_L Y (sg_ua ad 178 q) (sg_mg kb_TNI σ σ2) X) ++ ww_X7TNI Y (sg_ua ad 178 q) σ2).Perm (sl_w Y (sg_ua ad 178 q) (sg_mg kb_TNI σ σ2) X) := cut_back (bk_L Y (sg_ua ad 178 q) (sg_mg kb_TNI σ σ2) X) ids_L [0, 1, 19] isR_TNI (by decide) rfl rfl
end CUTS
section SGL
variable {p : Program} {l : Launch} {e : Env} {R : Room} {s : State} {m : MethodId} {args : Array Value} {below : List Frame} {meth : Method} {c : Code} {D : va_G} {Y : Nat → ClassId} {Z : (Nat → Prop) → State → Heap → Prop} {A : Nat → Prop} {nL : Nat} {cells slots : Nat} {Q : State → Prop} {cc : ByteArray} {own : String} {Ts : List Cond} {pc : Nat} {lv : List (Nat × Value)} {st : List Value} {w : va_W} {x y : Int32}
theorem g_slen (n : Nat) (C : sg_C p R s m args meth c cc nL own Ts D Y Z A) {b L : Nat} {xs : Nat → Int32} (hX : va_X b L xs s s.heap) (hbl : b < s.heap.size) (hbA : ¬ A b) (hdg : decode cc pc = .ok (.arraylength, 1)) (hn : pc + 1 = n) (kk : sg_G p l e R s m args below meth c D A nL cells slots Q n lv (.int (nI L) :: st) w) : sg_G p l e R s m args below meth c D A nL cells slots Q pc lv (.ref b :: st) w := by
  subst hn
  exact fun H locs ls hP hD hS hh => va_slen C.1 C.2.1 hX hbl hbA hS hdg (kk H locs ls hP hD hS hh)
theorem g_sld (n : Nat) (C : sg_C p R s m args meth c cc nL own Ts D Y Z A) {b L : Nat} {xs : Nat → Int32} (hX : va_X b L xs s s.heap) (hbl : b < s.heap.size) (hbA : ¬ A b) (hL : L ≤ 260) {j : Nat} (hj : j < L) (hdg : decode cc pc = .ok (.iaload, 1)) (hn : pc + 1 = n) (kk : sg_G p l e R s m args below meth c D A nL cells slots Q n lv (.int (xs j) :: st) w) : sg_G p l e R s m args below meth c D A nL cells slots Q pc lv (.int (nI j) :: .ref b :: st) w := by
  subst hn
  intro H locs ls hP hD hS hh
  have e : (nI j).toNatClampNeg = j := nI_clamp (by omega)
  refine va_sld C.1 C.2.1 hX hbl hbA hS (vp_in_nI hj (by omega)) hdg ?_
  rw [e]
  exact kk H locs ls hP hD hS hh
theorem g_dstore (n : Nat) (C : sg_C p R s m args meth c cc nL own Ts D Y Z A) {i : Nat} {v : UInt64} (lv2 : List (Nat × Value)) (hdg : decode cc pc = .ok (.dstore i, 2)) (hn : pc + 2 = n) (hi2 : i + 1 < nL) (hl : (i, Value.double v) :: lv.filter (fun q => !(q.1 == i) && (!(q.1 == i + 1) && !(q.1 + 1 == i && q.2.category == 2))) = lv2) (kk : sg_G p l e R s m args below meth c D A nL cells slots Q n lv2 st w) : sg_G p l e R s m args below meth c D A nL cells slots Q pc lv (.double v :: st) w := by
  subst hn
  exact fun H locs ls hP hD hS hh => lv_dstore C.1 C.2.1 hdg hh hi2 hl (fun ls2 h2 => kk H locs ls2 hP hD hS h2)
theorem g_dload (n : Nat) (C : sg_C p R s m args meth c cc nL own Ts D Y Z A) {i : Nat} {v : UInt64} (hdg : decode cc pc = .ok (.dload i, 2)) (hn : pc + 2 = n) (hl : sg_lk lv i = some (.double v)) (kk : sg_G p l e R s m args below meth c D A nL cells slots Q n lv (.double v :: st) w) : sg_G p l e R s m args below meth c D A nL cells slots Q pc lv st w := by
  subst hn
  exact fun H locs ls hP hD hS hh => lv_dload C.1 C.2.1 hdg (sg_lk_has hh hl) (kk H locs ls hP hD hS hh)
end SGL
theorem sl_2 (i : Nat) : nI i + 2 = nI (i + 2) := by
  rw [show (2 : Int32) = 1 + 1 from by decide, ← Int32.add_assoc, nI_1, nI_1]
theorem sl_3 (i : Nat) : nI i + 3 = nI (i + 3) := by
  rw [show (3 : Int32) = 2 + 1 from by decide, ← Int32.add_assoc, sl_2, nI_1]
theorem sl_4 (i : Nat) : nI i + 4 = nI (i + 4) := by
  rw [show (4 : Int32) = 3 + 1 from by decide, ← Int32.add_assoc, sl_3, nI_1]
abbrev sl_A (s : State) : Nat → Prop := fun q => s.heap.size ≤ q
