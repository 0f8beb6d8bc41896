/-! THE LAW: a call of the class, in one row -/
theorem sl_at0 (Y : Nat → ClassId) (ad : Nat → Nat) (σ : sg_S) (X : va_W) : ∃ fs : List Value, (sl_w Y ad σ X)[X.length]? = some (ad 0, .inr (9, fs)) := by
  have e : sl_w Y ad σ X = X ++ (([0, 1, 2, 3, 4, 5, 6, 7, 8, 9, 10, 11, 12, 13, 14, 15, 16, 17, 18, 19] : List Nat).flatMap (bk_L Y ad σ X)) := rfl
  rw [e, List.getElem?_append_right (Nat.le_refl _), Nat.sub_self]
  exact ⟨_, rfl⟩
theorem sl_mgE {b : Nat → Bool} {σ σ2 : sg_S} (h : ∀ p k, b p = false → σ2 p k = σ p k) : sg_mg b σ σ2 = σ2 := by
  funext p k
  unfold sg_mg
  cases e : b p with
  | true => rfl
  | false => exact (h p k e).symm
theorem sl_mgT {b : Nat → Bool} {σ σ2 : sg_S} {p k : Nat} (h : b p = true) : sg_mg b σ σ2 p k = σ2 p k := by
  unfold sg_mg
  rw [h]
  rfl
theorem sl_mgF {b : Nat → Bool} {σ σ2 : sg_S} {p k : Nat} (h : b p = false) : sg_mg b σ σ2 p k = σ p k := by
  unfold sg_mg
  rw [h]
  rfl
theorem sl_blF {x y : Nat} (h : y < x) : Nat.ble x y = false := by
  cases e : Nat.ble x y with
  | false => rfl
  | true => exact absurd (Nat.le_of_ble_eq_true e) (by omega)
section SLK
variable {p : Program} {l : Launch} {e : Env} {R : Room} {s : State} {m : MethodId} {args : Array Value} {below : List Frame} {meth : Method} {c : Code} {D : va_G} {Y : Nat → ClassId} {Z : (Nat → Prop) → State → Heap → Prop} {A : Nat → Prop} {nL : Nat} {cells slots : Nat} {Q : State → Prop} {cc : ByteArray} {own : String} {Ts : List Cond} {pc : Nat} {lv : List (Nat × Value)} {st : List Value} {X : va_W} {ad : Nat → Nat} {σ : sg_S} {index : Nat} {r : Int32}
set_option maxRecDepth 20000 in
theorem lc_treaty (n : Nat) (C : sg_C p R s m args meth c cc nL own Ts D Y Z A) (hG : GoodIn Ts (wsV own index RX7 yX7_treaty wsX7_treaty)) (hR : 7 ≤ R.frames ∧ 170 ≤ R.locals) (hroom : (st.map fun v => v.category).sum ≤ 8) {x : Int32} {y : Int32} {z : Int32} {σ2 : sg_S} (e7 : f_X7_treaty x y z σ = some (r, σ2)) (hcs : cells ≤ R.cells ∧ slots ≤ R.slots) (hdg : decode cc pc = .ok (.invokevirtual index, 3)) (hn : pc + 3 = n) (kk : sg_G p l e R s m args below meth c D A nL cells slots Q n lv (.int r :: st) (sl_w Y ad (sg_mg kb_TNLBH σ σ2) X)) : sg_G p l e R s m args below meth c D A nL cells slots Q pc lv (.int z :: .int y :: .int x :: .ref (ad 0) :: st) (sl_w Y ad σ X) := by
  obtain ⟨fs, hq⟩ := sl_at0 Y ad σ X
  exact g_callViP n C (As := [.int x, .int y, .int z]) (st := st) (n0 := 3) (ci := 9) (q0 := X.length) (c_X7_treaty l C.2.2.2.2.2.2.2.1 (ad := ad) e7) hG ⟨rfl, by decide +kernel, by decide +kernel, rfl⟩ rfl hR rfl hq (cut_TNLBH Y ad σ σ2 X) rfl hroom hcs hdg hn rfl kk
set_option maxRecDepth 20000 in
theorem lc_credit (n : Nat) (C : sg_C p R s m args meth c cc nL own Ts D Y Z A) (hG : GoodIn Ts (wsV own index RX7 yX7_credit wsX7_credit)) (hR : 7 ≤ R.frames ∧ 170 ≤ R.locals) (hroom : (st.map fun v => v.category).sum ≤ 8) {x : Int32} {y : Int32} {z : Int32} {σ2 : sg_S} (e7 : f_X7_credit x y z σ = some (r, σ2)) (hcs : cells ≤ R.cells ∧ slots ≤ R.slots) (hdg : decode cc pc = .ok (.invokevirtual index, 3)) (hn : pc + 3 = n) (kk : sg_G p l e R s m args below meth c D A nL cells slots Q n lv (.int r :: st) (sl_w Y ad (sg_mg kb_TNLBH σ σ2) X)) : sg_G p l e R s m args below meth c D A nL cells slots Q pc lv (.int z :: .int y :: .int x :: .ref (ad 0) :: st) (sl_w Y ad σ X) := by
  obtain ⟨fs, hq⟩ := sl_at0 Y ad σ X
  exact g_callViP n C (As := [.int x, .int y, .int z]) (st := st) (n0 := 3) (ci := 9) (q0 := X.length) (c_X7_credit l C.2.2.2.2.2.2.2.1 (ad := ad) e7) hG ⟨rfl, by decide +kernel, by decide +kernel, rfl⟩ rfl hR rfl hq (cut_TNLBH Y ad σ σ2 X) rfl hroom hcs hdg hn rfl kk
set_option maxRecDepth 20000 in
theorem lc_repay (n : Nat) (C : sg_C p R s m args meth c cc nL own Ts D Y Z A) (hG : GoodIn Ts (wsV own index RX7 yX7_repay wsX7_repay)) (hR : 7 ≤ R.frames ∧ 168 ≤ R.locals) (hroom : (st.map fun v => v.category).sum ≤ 8) {x : Int32} {σ2 : sg_S} (e7 : f_X7_repay x σ = some (r, σ2)) (hcs : cells ≤ R.cells ∧ slots ≤ R.slots) (hdg : decode cc pc = .ok (.invokevirtual index, 3)) (hn : pc + 3 = n) (kk : sg_G p l e R s m args below meth c D A nL cells slots Q n lv (.int r :: st) (sl_w Y ad (sg_mg kb_TNLBH σ σ2) X)) : sg_G p l e R s m args below meth c D A nL cells slots Q pc lv (.int x :: .ref (ad 0) :: st) (sl_w Y ad σ X) := by
  obtain ⟨fs, hq⟩ := sl_at0 Y ad σ X
  exact g_callViP n C (As := [.int x]) (st := st) (n0 := 1) (ci := 9) (q0 := X.length) (c_X7_repay l C.2.2.2.2.2.2.2.1 (ad := ad) e7) hG ⟨rfl, by decide +kernel, by decide +kernel, rfl⟩ rfl hR rfl hq (cut_TNLBH Y ad σ σ2 X) rfl hroom hcs hdg hn rfl kk
set_option maxRecDepth 20000 in
theorem lc_rain (n : Nat) (C : sg_C p R s m args meth c cc nL own Ts D Y Z A) (hG : GoodIn Ts (wsV own index RX7 yX7_rain wsX7_rain)) (hR : 7 ≤ R.frames ∧ 169 ≤ R.locals) (hroom : (st.map fun v => v.category).sum ≤ 8) {x : Int32} {y : Int32} {σ2 : sg_S} (e7 : f_X7_rain x y σ = some (r, σ2)) (hcs : cells ≤ R.cells ∧ slots ≤ R.slots) (hdg : decode cc pc = .ok (.invokevirtual index, 3)) (hn : pc + 3 = n) (kk : sg_G p l e R s m args below meth c D A nL cells slots Q n lv (.int r :: st) (sl_w Y ad (sg_mg kb_TNLBH σ σ2) X)) : sg_G p l e R s m args below meth c D A nL cells slots Q pc lv (.int y :: .int x :: .ref (ad 0) :: st) (sl_w Y ad σ X) := by
  obtain ⟨fs, hq⟩ := sl_at0 Y ad σ X
  exact g_callViP n C (As := [.int x, .int y]) (st := st) (n0 := 2) (ci := 9) (q0 := X.length) (c_X7_rain l C.2.2.2.2.2.2.2.1 (ad := ad) e7) hG ⟨rfl, by decide +kernel, by decide +kernel, rfl⟩ rfl hR rfl hq (cut_TNLBH Y ad σ σ2 X) rfl hroom hcs hdg hn rfl kk
set_option maxRecDepth 20000 in
theorem lc_bail (n : Nat) (C : sg_C p R s m args meth c cc nL own Ts D Y Z A) (hG : GoodIn Ts (wsV own index RX7 yX7_bail wsX7_bail)) (hR : 7 ≤ R.frames ∧ 169 ≤ R.locals) (hroom : (st.map fun v => v.category).sum ≤ 8) {x : Int32} {y : Int32} {σ2 : sg_S} (e7 : f_X7_bail x y σ = some (r, σ2)) (hcs : cells ≤ R.cells ∧ slots ≤ R.slots) (hdg : decode cc pc = .ok (.invokevirtual index, 3)) (hn : pc + 3 = n) (kk : sg_G p l e R s m args below meth c D A nL cells slots Q n lv (.int r :: st) (sl_w Y ad (sg_mg kb_TNLBH σ σ2) X)) : sg_G p l e R s m args below meth c D A nL cells slots Q pc lv (.int y :: .int x :: .ref (ad 0) :: st) (sl_w Y ad σ X) := by
  obtain ⟨fs, hq⟩ := sl_at0 Y ad σ X
  exact g_callViP n C (As := [.int x, .int y]) (st := st) (n0 := 2) (ci := 9) (q0 := X.length) (c_X7_bail l C.2.2.2.2.2.2.2.1 (ad := ad) e7) hG ⟨rfl, by decide +kernel, by decide +kernel, rfl⟩ rfl hR rfl hq (cut_TNLBH Y ad σ σ2 X) rfl hroom hcs hdg hn rfl kk
set_option maxRecDepth 20000 in
theorem lc_buy (n : Nat) (C : sg_C p R s m args meth c cc nL own Ts D Y Z A) (hG : GoodIn Ts (wsV own index RX7 yX7_buy wsX7_buy)) (hR : 7 ≤ R.frames ∧ 168 ≤ R.locals) (hroom : (st.map fun v => v.category).sum ≤ 8) {x : Int32} {σ2 : sg_S} (e7 : f_X7_buy x σ = some (r, σ2)) (hcs : cells ≤ R.cells ∧ slots ≤ R.slots) (hdg : decode cc pc = .ok (.invokevirtual index, 3)) (hn : pc + 3 = n) (kk : sg_G p l e R s m args below meth c D A nL cells slots Q n lv (.int r :: st) (sl_w Y ad (sg_mg kb_TNLBH σ σ2) X)) : sg_G p l e R s m args below meth c D A nL cells slots Q pc lv (.int x :: .ref (ad 0) :: st) (sl_w Y ad σ X) := by
  obtain ⟨fs, hq⟩ := sl_at0 Y ad σ X
  exact g_callViP n C (As := [.int x]) (st := st) (n0 := 1) (ci := 9) (q0 := X.length) (c_X7_buy l C.2.2.2.2.2.2.2.1 (ad := ad) e7) hG ⟨rfl, by decide +kernel, by decide +kernel, rfl⟩ rfl hR rfl hq (cut_TNLBH Y ad σ σ2 X) rfl hroom hcs hdg hn rfl kk
set_option maxRecDepth 20000 in
theorem lc_month (n : Nat) (C : sg_C p R s m args meth c cc nL own Ts D Y Z A) (hG : GoodIn Ts (wsV own index RX7 yX7_month wsX7_month)) (hR : 7 ≤ R.frames ∧ 167 ≤ R.locals) (hroom : (st.map fun v => v.category).sum ≤ 8) {σ2 : sg_S} (e7 : f_X7_month σ = some (r, σ2)) (hcs : cells ≤ R.cells ∧ slots ≤ R.slots) (hdg : decode cc pc = .ok (.invokevirtual index, 3)) (hn : pc + 3 = n) (kk : sg_G p l e R s m args below meth c D A nL cells slots Q n lv (.int r :: st) (sl_w Y ad (sg_mg kb_TNLBH σ σ2) X)) : sg_G p l e R s m args below meth c D A nL cells slots Q pc lv (.ref (ad 0) :: st) (sl_w Y ad σ X) := by
  obtain ⟨fs, hq⟩ := sl_at0 Y ad σ X
  exact g_callViP n C (As := []) (st := st) (n0 := 0) (ci := 9) (q0 := X.length) (c_X7_month l C.2.2.2.2.2.2.2.1 (ad := ad) e7) hG ⟨rfl, by decide +kernel, by decide +kernel, rfl⟩ rfl hR rfl hq (cut_TNLBH Y ad σ σ2 X) rfl hroom hcs hdg hn rfl kk
set_option maxRecDepth 20000 in
theorem lc_townOf (n : Nat) (C : sg_C p R s m args meth c cc nL own Ts D Y Z A) (hG : GoodIn Ts (wsV own index RX7 yX7_townOf wsX7_townOf)) (hR : 3 ≤ R.frames ∧ 68 ≤ R.locals) (hroom : (st.map fun v => v.category).sum ≤ 8) {x : Int32} {y : Int32} (e7 : f_X7_townOf x y σ = some r) (hcs : cells ≤ R.cells ∧ slots ≤ R.slots) (hdg : decode cc pc = .ok (.invokevirtual index, 3)) (hn : pc + 3 = n) (kk : sg_G p l e R s m args below meth c D A nL cells slots Q n lv (.int r :: st) (sl_w Y ad σ X)) : sg_G p l e R s m args below meth c D A nL cells slots Q pc lv (.int y :: .int x :: .ref (ad 0) :: st) (sl_w Y ad σ X) := by
  obtain ⟨fs, hq⟩ := sl_at0 Y ad σ X
  exact g_callViP n C (As := [.int x, .int y]) (st := st) (n0 := 2) (ci := 9) (q0 := X.length) (c_X7_townOf l C.2.2.2.2.2.2.2.1 (ad := ad) e7) hG ⟨rfl, by decide +kernel, by decide +kernel, rfl⟩ rfl hR rfl hq (cut_rTN Y ad σ X) rfl hroom hcs hdg hn rfl kk
set_option maxRecDepth 20000 in
theorem lc_creditOf (n : Nat) (C : sg_C p R s m args meth c cc nL own Ts D Y Z A) (hG : GoodIn Ts (wsV own index RX7 yX7_creditOf wsX7_creditOf)) (hR : 2 ≤ R.frames ∧ 43 ≤ R.locals) (hroom : (st.map fun v => v.category).sum ≤ 8) {x : Int32} {y : Int32} (e7 : f_X7_creditOf x y σ = some r) (hcs : cells ≤ R.cells ∧ slots ≤ R.slots) (hdg : decode cc pc = .ok (.invokevirtual index, 3)) (hn : pc + 3 = n) (kk : sg_G p l e R s m args below meth c D A nL cells slots Q n lv (.int r :: st) (sl_w Y ad σ X)) : sg_G p l e R s m args below meth c D A nL cells slots Q pc lv (.int y :: .int x :: .ref (ad 0) :: st) (sl_w Y ad σ X) := by
  obtain ⟨fs, hq⟩ := sl_at0 Y ad σ X
  exact g_callViP n C (As := [.int x, .int y]) (st := st) (n0 := 2) (ci := 9) (q0 := X.length) (c_X7_creditOf l C.2.2.2.2.2.2.2.1 (ad := ad) e7) hG ⟨rfl, by decide +kernel, by decide +kernel, rfl⟩ rfl hR rfl hq (cut_rTN Y ad σ X) rfl hroom hcs hdg hn rfl kk
set_option maxRecDepth 20000 in
theorem lc_owes (n : Nat) (C : sg_C p R s m args meth c cc nL own Ts D Y Z A) (hG : GoodIn Ts (wsV own index RX7 yX7_owes wsX7_owes)) (hR : 2 ≤ R.frames ∧ 44 ≤ R.locals) (hroom : (st.map fun v => v.category).sum ≤ 8) {x : Int32} (e7 : f_X7_owes x σ = some r) (hcs : cells ≤ R.cells ∧ slots ≤ R.slots) (hdg : decode cc pc = .ok (.invokevirtual index, 3)) (hn : pc + 3 = n) (kk : sg_G p l e R s m args below meth c D A nL cells slots Q n lv (.int r :: st) (sl_w Y ad σ X)) : sg_G p l e R s m args below meth c D A nL cells slots Q pc lv (.int x :: .ref (ad 0) :: st) (sl_w Y ad σ X) := by
  obtain ⟨fs, hq⟩ := sl_at0 Y ad σ X
  exact g_callViP n C (As := [.int x]) (st := st) (n0 := 1) (ci := 9) (q0 := X.length) (c_X7_owes l C.2.2.2.2.2.2.2.1 (ad := ad) e7) hG ⟨rfl, by decide +kernel, by decide +kernel, rfl⟩ rfl hR rfl hq (cut_rTN Y ad σ X) rfl hroom hcs hdg hn rfl kk
set_option maxRecDepth 20000 in
theorem lc_owesAgain (n : Nat) (C : sg_C p R s m args meth c cc nL own Ts D Y Z A) (hG : GoodIn Ts (wsV own index RX7 yX7_owesAgain wsX7_owesAgain)) (hR : 3 ≤ R.frames ∧ 68 ≤ R.locals) (hroom : (st.map fun v => v.category).sum ≤ 8) {x : Int32} (e7 : f_X7_owesAgain x σ = some r) (hcs : cells ≤ R.cells ∧ slots ≤ R.slots) (hdg : decode cc pc = .ok (.invokevirtual index, 3)) (hn : pc + 3 = n) (kk : sg_G p l e R s m args below meth c D A nL cells slots Q n lv (.int r :: st) (sl_w Y ad σ X)) : sg_G p l e R s m args below meth c D A nL cells slots Q pc lv (.int x :: .ref (ad 0) :: st) (sl_w Y ad σ X) := by
  obtain ⟨fs, hq⟩ := sl_at0 Y ad σ X
  exact g_callViP n C (As := [.int x]) (st := st) (n0 := 1) (ci := 9) (q0 := X.length) (c_X7_owesAgain l C.2.2.2.2.2.2.2.1 (ad := ad) e7) hG ⟨rfl, by decide +kernel, by decide +kernel, rfl⟩ rfl hR rfl hq (cut_rTN Y ad σ X) rfl hroom hcs hdg hn rfl kk
set_option maxRecDepth 20000 in
theorem lc_due (n : Nat) (C : sg_C p R s m args meth c cc nL own Ts D Y Z A) (hG : GoodIn Ts (wsV own index RX7 yX7_due wsX7_due)) (hR : 2 ≤ R.frames ∧ 47 ≤ R.locals) (hroom : (st.map fun v => v.category).sum ≤ 8) {x : Int32} (e7 : f_X7_due x σ = some r) (hcs : cells ≤ R.cells ∧ slots ≤ R.slots) (hdg : decode cc pc = .ok (.invokevirtual index, 3)) (hn : pc + 3 = n) (kk : sg_G p l e R s m args below meth c D A nL cells slots Q n lv (.int r :: st) (sl_w Y ad σ X)) : sg_G p l e R s m args below meth c D A nL cells slots Q pc lv (.int x :: .ref (ad 0) :: st) (sl_w Y ad σ X) := by
  obtain ⟨fs, hq⟩ := sl_at0 Y ad σ X
  exact g_callViP n C (As := [.int x]) (st := st) (n0 := 1) (ci := 9) (q0 := X.length) (c_X7_due l C.2.2.2.2.2.2.2.1 (ad := ad) e7) hG ⟨rfl, by decide +kernel, by decide +kernel, rfl⟩ rfl hR rfl hq (cut_rTN Y ad σ X) rfl hroom hcs hdg hn rfl kk
set_option maxRecDepth 20000 in
theorem lc_far (n : Nat) (C : sg_C p R s m args meth c cc nL own Ts D Y Z A) (hG : GoodIn Ts (wsV own index RX7 yX7_far wsX7_far)) (hR : 3 ≤ R.frames ∧ 69 ≤ R.locals) (hroom : (st.map fun v => v.category).sum ≤ 8) {x : Int32} {y : Int32} (e7 : f_X7_far x y σ = some r) (hcs : cells ≤ R.cells ∧ slots ≤ R.slots) (hdg : decode cc pc = .ok (.invokevirtual index, 3)) (hn : pc + 3 = n) (kk : sg_G p l e R s m args below meth c D A nL cells slots Q n lv (.int r :: st) (sl_w Y ad σ X)) : sg_G p l e R s m args below meth c D A nL cells slots Q pc lv (.int y :: .int x :: .ref (ad 0) :: st) (sl_w Y ad σ X) := by
  obtain ⟨fs, hq⟩ := sl_at0 Y ad σ X
  exact g_callViP n C (As := [.int x, .int y]) (st := st) (n0 := 2) (ci := 9) (q0 := X.length) (c_X7_far l C.2.2.2.2.2.2.2.1 (ad := ad) e7) hG ⟨rfl, by decide +kernel, by decide +kernel, rfl⟩ rfl hR rfl hq (cut_rTN Y ad σ X) rfl hroom hcs hdg hn rfl kk
set_option maxRecDepth 20000 in
theorem lc_drizzle (n : Nat) (C : sg_C p R s m args meth c cc nL own Ts D Y Z A) (hG : GoodIn Ts (wsV own index RX7 yX7_drizzle wsX7_drizzle)) (hR : 2 ≤ R.frames ∧ 49 ≤ R.locals) (hroom : (st.map fun v => v.category).sum ≤ 8) {x : Int32} {y : Int32} {z : Int32} {σ2 : sg_S} (e7 : f_X7_drizzle x y z σ = some (r, σ2)) (hcs : cells ≤ R.cells ∧ slots ≤ R.slots) (hdg : decode cc pc = .ok (.invokevirtual index, 3)) (hn : pc + 3 = n) (kk : sg_G p l e R s m args below meth c D A nL cells slots Q n lv (.int r :: st) (sl_w Y ad (sg_mg kb_TN σ σ2) X)) : sg_G p l e R s m args below meth c D A nL cells slots Q pc lv (.int z :: .int y :: .int x :: .ref (ad 0) :: st) (sl_w Y ad σ X) := by
  obtain ⟨fs, hq⟩ := sl_at0 Y ad σ X
  exact g_callViP n C (As := [.int x, .int y, .int z]) (st := st) (n0 := 3) (ci := 9) (q0 := X.length) (c_X7_drizzle l C.2.2.2.2.2.2.2.1 (ad := ad) e7) hG ⟨rfl, by decide +kernel, by decide +kernel, rfl⟩ rfl hR rfl hq (cut_TN Y ad σ σ2 X) rfl hroom hcs hdg hn rfl kk
set_option maxRecDepth 20000 in
theorem lc_drizzleAgain (n : Nat) (C : sg_C p R s m args meth c cc nL own Ts D Y Z A) (hG : GoodIn Ts (wsV own index RX7 yX7_drizzleAgain wsX7_drizzleAgain)) (hR : 4 ≤ R.frames ∧ 94 ≤ R.locals) (hroom : (st.map fun v => v.category).sum ≤ 8) {x : Int32} {y : Int32} {z : Int32} (e7 : f_X7_drizzleAgain x y z σ = some r) (hcs : cells ≤ R.cells ∧ slots ≤ R.slots) (hdg : decode cc pc = .ok (.invokevirtual index, 3)) (hn : pc + 3 = n) (kk : sg_G p l e R s m args below meth c D A nL cells slots Q n lv (.int r :: st) (sl_w Y ad σ X)) : sg_G p l e R s m args below meth c D A nL cells slots Q pc lv (.int z :: .int y :: .int x :: .ref (ad 0) :: st) (sl_w Y ad σ X) := by
  obtain ⟨fs, hq⟩ := sl_at0 Y ad σ X
  exact g_callViP n C (As := [.int x, .int y, .int z]) (st := st) (n0 := 3) (ci := 9) (q0 := X.length) (c_X7_drizzleAgain l C.2.2.2.2.2.2.2.1 (ad := ad) e7) hG ⟨rfl, by decide +kernel, by decide +kernel, rfl⟩ rfl hR rfl hq (cut_rTN Y ad σ X) rfl hroom hcs hdg hn rfl kk
set_option maxRecDepth 20000 in
theorem lc_would (n : Nat) (C : sg_C p R s m args meth c cc nL own Ts D Y Z A) (hG : GoodIn Ts (wsV own index RX7 yX7_would wsX7_would)) (hR : 5 ≤ R.frames ∧ 122 ≤ R.locals) (hroom : (st.map fun v => v.category).sum ≤ 8) {x : Int32} {y : Int32} {z : Int32} {σ2 : sg_S} (e7 : f_X7_would x y z σ = some (r, σ2)) (hcs : cells ≤ R.cells ∧ slots ≤ R.slots) (hdg : decode cc pc = .ok (.invokevirtual index, 3)) (hn : pc + 3 = n) (kk : sg_G p l e R s m args below meth c D A nL cells slots Q n lv (.int r :: st) (sl_w Y ad (sg_mg kb_TNR σ σ2) X)) : sg_G p l e R s m args below meth c D A nL cells slots Q pc lv (.int z :: .int y :: .int x :: .ref (ad 0) :: st) (sl_w Y ad σ X) := by
  obtain ⟨fs, hq⟩ := sl_at0 Y ad σ X
  exact g_callViP n C (As := [.int x, .int y, .int z]) (st := st) (n0 := 3) (ci := 9) (q0 := X.length) (c_X7_would l C.2.2.2.2.2.2.2.1 (ad := ad) e7) hG ⟨rfl, by decide +kernel, by decide +kernel, rfl⟩ rfl hR rfl hq (cut_TNR Y ad σ σ2 X) rfl hroom hcs hdg hn rfl kk
set_option maxRecDepth 20000 in
theorem lc_most (n : Nat) (C : sg_C p R s m args meth c cc nL own Ts D Y Z A) (hG : GoodIn Ts (wsV own index RX7 yX7_most wsX7_most)) (hR : 6 ≤ R.frames ∧ 145 ≤ R.locals) (hroom : (st.map fun v => v.category).sum ≤ 8) {x : Int32} {y : Int32} {σ2 : sg_S} (e7 : f_X7_most x y σ = some (r, σ2)) (hcs : cells ≤ R.cells ∧ slots ≤ R.slots) (hdg : decode cc pc = .ok (.invokevirtual index, 3)) (hn : pc + 3 = n) (kk : sg_G p l e R s m args below meth c D A nL cells slots Q n lv (.int r :: st) (sl_w Y ad (sg_mg kb_TNR σ σ2) X)) : sg_G p l e R s m args below meth c D A nL cells slots Q pc lv (.int y :: .int x :: .ref (ad 0) :: st) (sl_w Y ad σ X) := by
  obtain ⟨fs, hq⟩ := sl_at0 Y ad σ X
  exact g_callViP n C (As := [.int x, .int y]) (st := st) (n0 := 2) (ci := 9) (q0 := X.length) (c_X7_most l C.2.2.2.2.2.2.2.1 (ad := ad) e7) hG ⟨rfl, by decide +kernel, by decide +kernel, rfl⟩ rfl hR rfl hq (cut_TNR Y ad σ σ2 X) rfl hroom hcs hdg hn rfl kk
set_option maxRecDepth 20000 in
theorem lc_ranked (n : Nat) (C : sg_C p R s m args meth c cc nL own Ts D Y Z A) (hG : GoodIn Ts (wsV own index RX7 yX7_ranked wsX7_ranked)) (hR : 4 ≤ R.frames ∧ 87 ≤ R.locals) (hroom : (st.map fun v => v.category).sum ≤ 8) {x : Int32} (e7 : f_X7_ranked x σ = some r) (hcs : cells ≤ R.cells ∧ slots ≤ R.slots) (hdg : decode cc pc = .ok (.invokevirtual index, 3)) (hn : pc + 3 = n) (kk : sg_G p l e R s m args below meth c D A nL cells slots Q n lv (.int r :: st) (sl_w Y ad σ X)) : sg_G p l e R s m args below meth c D A nL cells slots Q pc lv (.int x :: .ref (ad 0) :: st) (sl_w Y ad σ X) := by
  obtain ⟨fs, hq⟩ := sl_at0 Y ad σ X
  exact g_callViP n C (As := [.int x]) (st := st) (n0 := 1) (ci := 9) (q0 := X.length) (c_X7_ranked l C.2.2.2.2.2.2.2.1 (ad := ad) e7) hG ⟨rfl, by decide +kernel, by decide +kernel, rfl⟩ rfl hR rfl hq (cut_rTN Y ad σ X) rfl hroom hcs hdg hn rfl kk
set_option maxRecDepth 20000 in
theorem lc_next (n : Nat) (C : sg_C p R s m args meth c cc nL own Ts D Y Z A) (hG : GoodIn Ts (wsV own index RX7 yX7_next wsX7_next)) (hR : 4 ≤ R.frames ∧ 88 ≤ R.locals) (hroom : (st.map fun v => v.category).sum ≤ 8) {x : Int32} (e7 : f_X7_next x σ = some r) (hcs : cells ≤ R.cells ∧ slots ≤ R.slots) (hdg : decode cc pc = .ok (.invokevirtual index, 3)) (hn : pc + 3 = n) (kk : sg_G p l e R s m args below meth c D A nL cells slots Q n lv (.int r :: st) (sl_w Y ad σ X)) : sg_G p l e R s m args below meth c D A nL cells slots Q pc lv (.int x :: .ref (ad 0) :: st) (sl_w Y ad σ X) := by
  obtain ⟨fs, hq⟩ := sl_at0 Y ad σ X
  exact g_callViP n C (As := [.int x]) (st := st) (n0 := 1) (ci := 9) (q0 := X.length) (c_X7_next l C.2.2.2.2.2.2.2.1 (ad := ad) e7) hG ⟨rfl, by decide +kernel, by decide +kernel, rfl⟩ rfl hR rfl hq (cut_rTN Y ad σ X) rfl hroom hcs hdg hn rfl kk
set_option maxRecDepth 20000 in
theorem lc_isCounted (n : Nat) (C : sg_C p R s m args meth c cc nL own Ts D Y Z A) (hG : GoodIn Ts (wsV own index RX7 yX7_isCounted wsX7_isCounted)) (hR : 5 ≤ R.frames ∧ 113 ≤ R.locals) (hroom : (st.map fun v => v.category).sum ≤ 8) {σ2 : sg_S} (e7 : f_X7_isCounted σ = some (r, σ2)) (hcs : cells ≤ R.cells ∧ slots ≤ R.slots) (hdg : decode cc pc = .ok (.invokevirtual index, 3)) (hn : pc + 3 = n) (kk : sg_G p l e R s m args below meth c D A nL cells slots Q n lv (.int r :: st) (sl_w Y ad (sg_mg kb_TN σ σ2) X)) : sg_G p l e R s m args below meth c D A nL cells slots Q pc lv (.ref (ad 0) :: st) (sl_w Y ad σ X) := by
  obtain ⟨fs, hq⟩ := sl_at0 Y ad σ X
  exact g_callViP n C (As := []) (st := st) (n0 := 0) (ci := 9) (q0 := X.length) (c_X7_isCounted l C.2.2.2.2.2.2.2.1 (ad := ad) e7) hG ⟨rfl, by decide +kernel, by decide +kernel, rfl⟩ rfl hR rfl hq (cut_TN Y ad σ σ2 X) rfl hroom hcs hdg hn rfl kk
set_option maxRecDepth 20000 in
theorem lc_account (n : Nat) (C : sg_C p R s m args meth c cc nL own Ts D Y Z A) (hG : GoodIn Ts (wsV own index RX7 yX7_account wsX7_account)) (hR : 4 ≤ R.frames ∧ 84 ≤ R.locals) (hroom : (st.map fun v => v.category).sum ≤ 8) {x : Int32} (e7 : f_X7_account x σ = some r) (hcs : cells ≤ R.cells ∧ slots ≤ R.slots) (hdg : decode cc pc = .ok (.invokevirtual index, 3)) (hn : pc + 3 = n) (kk : sg_G p l e R s m args below meth c D A nL cells slots Q n lv (.int r :: st) (sl_w Y ad σ X)) : sg_G p l e R s m args below meth c D A nL cells slots Q pc lv (.int x :: .ref (ad 0) :: st) (sl_w Y ad σ X) := by
  obtain ⟨fs, hq⟩ := sl_at0 Y ad σ X
  exact g_callViP n C (As := [.int x]) (st := st) (n0 := 1) (ci := 9) (q0 := X.length) (c_X7_account l C.2.2.2.2.2.2.2.1 (ad := ad) e7) hG ⟨rfl, by decide +kernel, by decide +kernel, rfl⟩ rfl hR rfl hq (cut_rTNhx Y ad σ X) rfl hroom hcs hdg hn rfl kk
set_option maxRecDepth 20000 in
theorem lc_write (n : Nat) (C : sg_C p R s m args meth c cc nL own Ts D Y Z A) {jK jV jT : Nat → Nat} (hJ : sg_ZJ Z jK jV jT) (hG : GoodIn Ts (wsV own index RX7 yX7_write wsX7_write)) (hR : 7 ≤ R.frames ∧ 156 ≤ R.locals) (hroom : (st.map fun v => v.category).sum ≤ 8) {x : Int32} {σ2 : sg_S} (e7 : f_X7_write x σ = some (r, σ2)) (hcs : cells + 11 ≤ R.cells ∧ slots + 2200 ≤ R.slots) (hdg : decode cc pc = .ok (.invokevirtual index, 3)) (hn : pc + 3 = n) (kk : ∀ (ad2 : Nat → Nat) (σ3 : sg_S), ad2 0 = ad 0 → (∀ p k, p < 177 → p ≤ 13 → σ3 p k = σ2 p k) → (∀ p k, 13 < p → p < 177 → σ3 p k = σ p k) → (∀ p k, p < 2 → σ3 (177 + p) k = σ2 (177 + p) k) → sg_G p l e R s m args below meth c D A nL (cells + 11) (slots + 2200) Q n lv (.int r :: st) (sl_w Y ad2 σ3 X)) : sg_G p l e R s m args below meth c D A nL cells slots Q pc lv (.int x :: .ref (ad 0) :: st) (sl_w Y ad σ X) := by
  obtain ⟨fs, hq⟩ := sl_at0 Y ad σ X
  refine g_XVi n C (As := [.int x]) (st := st) (n0 := 1) (ci := 9) (q0 := X.length) (c_X7_write l C.2.2.2.2.2.2.2.1 hJ (ad := ad) e7) hG ⟨rfl, by decide +kernel, by decide +kernel, rfl⟩ rfl hR rfl hq (cut_TNI Y ad σ σ2 X) rfl hroom hcs hdg hn rfl (fun r0 q0 hr0 => ?_)
  subst hr0
  refine g_eqw (sg_eqL (eq_TNI Y ad σ σ2 X q0)) ?_
  refine g_perm (bk_TNI Y ad σ σ2 X q0) ?_
  refine kk (sg_ua ad 178 q0) (sg_mg kb_TNI σ σ2) rfl (fun p k h1 h2 => ?_) (fun p k h1 h2 => ?_) (fun p k hp => ?_)
  · exact sl_mgT (by unfold kb_TNI; rw [Nat.ble_eq_true_of_le h2]; rfl)
  · exact sl_mgF (by unfold kb_TNI; rw [sl_blF h1, sl_blF h2]; rfl)
  · refine sl_mgT ?_
    unfold kb_TNI
    rw [Nat.ble_eq_true_of_le (show 177 ≤ 177 + p by omega), Nat.ble_eq_true_of_le (show 177 + p ≤ 178 by omega), Bool.and_true, Bool.or_true]
set_option maxRecDepth 20000 in
theorem lc_writeCredits (n : Nat) (C : sg_C p R s m args meth c cc nL own Ts D Y Z A) {jK jV jT : Nat → Nat} (hJ : sg_ZJ Z jK jV jT) (hG : GoodIn Ts (wsV own index RX7 yX7_writeCredits wsX7_writeCredits)) (hR : 7 ≤ R.frames ∧ 156 ≤ R.locals) (hroom : (st.map fun v => v.category).sum ≤ 8) {σ2 : sg_S} (e7 : f_X7_writeCredits σ = some (r, σ2)) (hcs : cells + 54 ≤ R.cells ∧ slots + 10800 ≤ R.slots) (hdg : decode cc pc = .ok (.invokevirtual index, 3)) (hn : pc + 3 = n) (kk : ∀ (ad2 : Nat → Nat) (σ3 : sg_S), ad2 0 = ad 0 → (∀ p k, p < 177 → p ≤ 13 → σ3 p k = σ2 p k) → (∀ p k, 13 < p → p < 177 → σ3 p k = σ p k) → (∀ p k, p < 2 → σ3 (177 + p) k = σ2 (177 + p) k) → sg_G p l e R s m args below meth c D A nL (cells + 54) (slots + 10800) Q n lv (.int r :: st) (sl_w Y ad2 σ3 X)) : sg_G p l e R s m args below meth c D A nL cells slots Q pc lv (.ref (ad 0) :: st) (sl_w Y ad σ X) := by
  obtain ⟨fs, hq⟩ := sl_at0 Y ad σ X
  refine g_XVi n C (As := []) (st := st) (n0 := 0) (ci := 9) (q0 := X.length) (c_X7_writeCredits l C.2.2.2.2.2.2.2.1 hJ (ad := ad) e7) hG ⟨rfl, by decide +kernel, by decide +kernel, rfl⟩ rfl hR rfl hq (cut_TNI Y ad σ σ2 X) rfl hroom hcs hdg hn rfl (fun r0 q0 hr0 => ?_)
  subst hr0
  refine g_eqw (sg_eqL (eq_TNI Y ad σ σ2 X q0)) ?_
  refine g_perm (bk_TNI Y ad σ σ2 X q0) ?_
  refine kk (sg_ua ad 178 q0) (sg_mg kb_TNI σ σ2) rfl (fun p k h1 h2 => ?_) (fun p k h1 h2 => ?_) (fun p k hp => ?_)
  · exact sl_mgT (by unfold kb_TNI; rw [Nat.ble_eq_true_of_le h2]; rfl)
  · exact sl_mgF (by unfold kb_TNI; rw [sl_blF h1, sl_blF h2]; rfl)
  · refine sl_mgT ?_
    unfold kb_TNI
    rw [Nat.ble_eq_true_of_le (show 177 ≤ 177 + p by omega), Nat.ble_eq_true_of_le (show 177 + p ≤ 178 by omega), Bool.and_true, Bool.or_true]
set_option maxRecDepth 20000 in
theorem lc_written (n : Nat) (C : sg_C p R s m args meth c cc nL own Ts D Y Z A) {jK jV jT : Nat → Nat} (hJ : sg_ZJ Z jK jV jT) (hG : GoodIn Ts (wsV own index RX7 yX7_written wsX7_written)) (hR : 5 ≤ R.frames ∧ 109 ≤ R.locals) (hroom : (st.map fun v => v.category).sum ≤ 8) {x : Int32} (e7 : f_X7_written x σ = some r) (hcs : cells ≤ R.cells ∧ slots ≤ R.slots) (hdg : decode cc pc = .ok (.invokevirtual index, 3)) (hn : pc + 3 = n) (kk : sg_G p l e R s m args below meth c D A nL cells slots Q n lv (.int r :: st) (sl_w Y ad σ X)) : sg_G p l e R s m args below meth c D A nL cells slots Q pc lv (.int x :: .ref (ad 0) :: st) (sl_w Y ad σ X) := by
  obtain ⟨fs, hq⟩ := sl_at0 Y ad σ X
  exact g_callViP n C (As := [.int x]) (st := st) (n0 := 1) (ci := 9) (q0 := X.length) (c_X7_written l C.2.2.2.2.2.2.2.1 hJ (ad := ad) e7) hG ⟨rfl, by decide +kernel, by decide +kernel, rfl⟩ rfl hR rfl hq (cut_rTI Y ad σ X) rfl hroom hcs hdg hn rfl kk
set_option maxRecDepth 20000 in
theorem lc_read (n : Nat) (C : sg_C p R s m args meth c cc nL own Ts D Y Z A) {jK jV jT : Nat → Nat} (hJ : sg_ZJ Z jK jV jT) (hG : GoodIn Ts (wsV own index RX7 yX7_read wsX7_read)) (hR : 10 ≤ R.frames ∧ 224 ≤ R.locals) (hroom : (st.map fun v => v.category).sum ≤ 8) {σ2 : sg_S} (e7 : f_X7_read σ = some (r, σ2)) (hcs : cells ≤ R.cells ∧ slots ≤ R.slots) (hdg : decode cc pc = .ok (.invokevirtual index, 3)) (hn : pc + 3 = n) (kk : sg_G p l e R s m args below meth c D A nL cells slots Q n lv (.int r :: st) (sl_w Y ad (sg_mg kb_TNLBHX σ σ2) X)) : sg_G p l e R s m args below meth c D A nL cells slots Q pc lv (.ref (ad 0) :: st) (sl_w Y ad σ X) := by
  obtain ⟨fs, hq⟩ := sl_at0 Y ad σ X
  exact g_callViP n C (As := []) (st := st) (n0 := 0) (ci := 9) (q0 := X.length) (c_X7_read l C.2.2.2.2.2.2.2.1 hJ (ad := ad) e7) hG ⟨rfl, by decide +kernel, by decide +kernel, rfl⟩ rfl hR rfl hq (cut_TNLBHX Y ad σ σ2 X) rfl hroom hcs hdg hn rfl kk
set_option maxRecDepth 20000 in
theorem lc_fault (n : Nat) (C : sg_C p R s m args meth c cc nL own Ts D Y Z A) (hG : GoodIn Ts (wsV own index RX7 yX7_fault wsX7_fault)) (hR : 1 ≤ R.frames ∧ 20 ≤ R.locals) (hroom : (st.map fun v => v.category).sum ≤ 8) (e7 : f_X7_fault σ = some r) (hcs : cells ≤ R.cells ∧ slots ≤ R.slots) (hdg : decode cc pc = .ok (.invokevirtual index, 3)) (hn : pc + 3 = n) (kk : sg_G p l e R s m args below meth c D A nL cells slots Q n lv (.int r :: st) (sl_w Y ad σ X)) : sg_G p l e R s m args below meth c D A nL cells slots Q pc lv (.ref (ad 0) :: st) (sl_w Y ad σ X) := by
  obtain ⟨fs, hq⟩ := sl_at0 Y ad σ X
  exact g_callViP n C (As := []) (st := st) (n0 := 0) (ci := 9) (q0 := X.length) (c_X7_fault l C.2.2.2.2.2.2.2.1 (ad := ad) e7) hG ⟨rfl, by decide +kernel, by decide +kernel, rfl⟩ rfl hR rfl hq (cut_rT Y ad σ X) rfl hroom hcs hdg hn rfl kk
set_option maxRecDepth 20000 in
theorem lc_reason (n : Nat) (C : sg_C p R s m args meth c cc nL own Ts D Y Z A) (hG : GoodIn Ts (wsV own index RX7 yX7_reason wsX7_reason)) (hR : 1 ≤ R.frames ∧ 22 ≤ R.locals) (hroom : (st.map fun v => v.category).sum ≤ 8) {x : Int32} {y : Int32} (e7 : f_X7_reason x y σ = some r) (hcs : cells ≤ R.cells ∧ slots ≤ R.slots) (hdg : decode cc pc = .ok (.invokevirtual index, 3)) (hn : pc + 3 = n) (kk : sg_G p l e R s m args below meth c D A nL cells slots Q n lv (.int r :: st) (sl_w Y ad σ X)) : sg_G p l e R s m args below meth c D A nL cells slots Q pc lv (.int y :: .int x :: .ref (ad 0) :: st) (sl_w Y ad σ X) := by
  obtain ⟨fs, hq⟩ := sl_at0 Y ad σ X
  exact g_callViP n C (As := [.int x, .int y]) (st := st) (n0 := 2) (ci := 9) (q0 := X.length) (c_X7_reason l C.2.2.2.2.2.2.2.1 (ad := ad) e7) hG ⟨rfl, by decide +kernel, by decide +kernel, rfl⟩ rfl hR rfl hq (cut_rTL Y ad σ X) rfl hroom hcs hdg hn rfl kk
set_option maxRecDepth 20000 in
theorem lc_undo (n : Nat) (C : sg_C p R s m args meth c cc nL own Ts D Y Z A) (hG : GoodIn Ts (wsV own index RX7 yX7_undo wsX7_undo)) (hR : 5 ≤ R.frames ∧ 123 ≤ R.locals) (hroom : (st.map fun v => v.category).sum ≤ 8) {σ2 : sg_S} (e7 : f_X7_undo σ = some (r, σ2)) (hcs : cells ≤ R.cells ∧ slots ≤ R.slots) (hdg : decode cc pc = .ok (.invokevirtual index, 3)) (hn : pc + 3 = n) (kk : sg_G p l e R s m args below meth c D A nL cells slots Q n lv (.int r :: st) (sl_w Y ad (sg_mg kb_TNH σ σ2) X)) : sg_G p l e R s m args below meth c D A nL cells slots Q pc lv (.ref (ad 0) :: st) (sl_w Y ad σ X) := by
  obtain ⟨fs, hq⟩ := sl_at0 Y ad σ X
  exact g_callViP n C (As := []) (st := st) (n0 := 0) (ci := 9) (q0 := X.length) (c_X7_undo l C.2.2.2.2.2.2.2.1 (ad := ad) e7) hG ⟨rfl, by decide +kernel, by decide +kernel, rfl⟩ rfl hR rfl hq (cut_TNH Y ad σ σ2 X) rfl hroom hcs hdg hn rfl kk
set_option maxRecDepth 20000 in
theorem lc_save (n : Nat) (C : sg_C p R s m args meth c cc nL own Ts D Y Z A) (hG : GoodIn Ts (wsV own index RX7 yX7_save wsX7_save)) (hR : 4 ≤ R.frames ∧ 102 ≤ R.locals) (hroom : (st.map fun v => v.category).sum ≤ 8) {σ2 : sg_S} (e7 : f_X7_save σ = some (r, σ2)) (hcs : cells ≤ R.cells ∧ slots ≤ R.slots) (hdg : decode cc pc = .ok (.invokevirtual index, 3)) (hn : pc + 3 = n) (kk : sg_G p l e R s m args below meth c D A nL cells slots Q n lv (.int r :: st) (sl_w Y ad (sg_mg kb_TNS σ σ2) X)) : sg_G p l e R s m args below meth c D A nL cells slots Q pc lv (.ref (ad 0) :: st) (sl_w Y ad σ X) := by
  obtain ⟨fs, hq⟩ := sl_at0 Y ad σ X
  exact g_callViP n C (As := []) (st := st) (n0 := 0) (ci := 9) (q0 := X.length) (c_X7_save l C.2.2.2.2.2.2.2.1 (ad := ad) e7) hG ⟨rfl, by decide +kernel, by decide +kernel, rfl⟩ rfl hR rfl hq (cut_TNS Y ad σ σ2 X) rfl hroom hcs hdg hn rfl kk
set_option maxRecDepth 20000 in
theorem lc_restore (n : Nat) (C : sg_C p R s m args meth c cc nL own Ts D Y Z A) (hG : GoodIn Ts (wsV own index RX7 yX7_restore wsX7_restore)) (hR : 4 ≤ R.frames ∧ 102 ≤ R.locals) (hroom : (st.map fun v => v.category).sum ≤ 8) {σ2 : sg_S} (e7 : f_X7_restore σ = some (r, σ2)) (hcs : cells ≤ R.cells ∧ slots ≤ R.slots) (hdg : decode cc pc = .ok (.invokevirtual index, 3)) (hn : pc + 3 = n) (kk : sg_G p l e R s m args below meth c D A nL cells slots Q n lv (.int r :: st) (sl_w Y ad (sg_mg kb_TNSh σ σ2) X)) : sg_G p l e R s m args below meth c D A nL cells slots Q pc lv (.ref (ad 0) :: st) (sl_w Y ad σ X) := by
  obtain ⟨fs, hq⟩ := sl_at0 Y ad σ X
  exact g_callViP n C (As := []) (st := st) (n0 := 0) (ci := 9) (q0 := X.length) (c_X7_restore l C.2.2.2.2.2.2.2.1 (ad := ad) e7) hG ⟨rfl, by decide +kernel, by decide +kernel, rfl⟩ rfl hR rfl hq (cut_TNSh Y ad σ σ2 X) rfl hroom hcs hdg hn rfl kk
end SLK
