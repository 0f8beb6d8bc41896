/-! THE LAW: builders and texts among its own cells -/
def sl_M (Y : Nat → ClassId) (ad : Nat → Nat) (σ : sg_S) : va_W := ([0, 1, 2, 3, 4, 5, 6, 7, 8, 9, 10, 11, 12, 13, 14, 15, 16, 17, 18, 19] : List Nat).flatMap (bk_L Y ad σ [])
theorem sl_wE (Y : Nat → ClassId) (ad : Nat → Nat) (σ : sg_S) (X : va_W) : sl_w Y ad σ X = X ++ sl_M Y ad σ := rfl
theorem sl_cutX {S : Type} (Y : Nat → ClassId) (ad : Nat → Nat) (σ : sg_S) (wc X : va_W) (w1 : S → va_W) : ∃ wr : va_W, (sl_w Y ad σ (wc ++ X)).Perm (wc ++ wr) ∧ ∀ u : S, (wr ++ w1 u).Perm (sl_w Y ad σ (w1 u ++ X)) := by
  refine ⟨X ++ sl_M Y ad σ, ?_, fun u => ?_⟩
  · rw [sl_wE, List.append_assoc]
  · rw [sl_wE]
    exact List.perm_append_comm.trans (List.Perm.of_eq (List.append_assoc _ _ _).symm)
theorem sl_cutP (Y : Nat → ClassId) (ad : Nat → Nat) (σ : sg_S) (wc X w1 : va_W) : sg_cutP (sl_w Y ad σ (wc ++ X)) wc w1 (sl_w Y ad σ (w1 ++ X)) := by
  obtain ⟨wr, h1, h2⟩ := sl_cutX (S := Unit) Y ad σ wc X (fun _ => w1)
  exact ⟨wr, h1, h2 ()⟩
/-- a callee of the law's own: the ministry and a part of the cells -/
theorem sl_cutL {S : Type} (Y : Nat → ClassId) (ad : Nat → Nat) (σ : sg_S) (Xc Xr : va_W) (ad2 : S → Nat → Nat) (σ2 : S → sg_S) (X2 : S → va_W) : ∃ wr : va_W, (sl_w Y ad σ (Xc ++ Xr)).Perm (sl_w Y ad σ Xc ++ wr) ∧ ∀ u : S, (wr ++ sl_w Y (ad2 u) (σ2 u) (X2 u)).Perm (sl_w Y (ad2 u) (σ2 u) (X2 u ++ Xr)) := by
  refine ⟨Xr, ?_, fun u => ?_⟩
  · rw [sl_wE, sl_wE, List.append_assoc, List.append_assoc]
    exact List.Perm.append_left _ List.perm_append_comm
  · rw [sl_wE, sl_wE, List.append_assoc]
    refine (List.perm_append_comm_assoc _ _ _).trans ?_
    exact List.Perm.append_left _ (List.Perm.refl _)
section SLB
variable {p : Program} {l : Launch} {e : Env} {R : Room} {s : State} {m : MethodId} {args : Array Value} {below : List Frame} {meth : Method} {c : Code} {D : va_G} {Y : Nat → ClassId} {Z : (Nat → Prop) → State → Heap → Prop} {A : Nat → Prop} {nL : Nat} {cells slots : Nat} {Q : State → Prop} {cc : ByteArray} {own : String} {Ts : List Cond} {pc : Nat} {lv : List (Nat × Value)} {st : List Value} {X : va_W} {ad b : Nat → Nat} {σ κ : sg_S} {index : Nat} {jK jV jT : Nat → Nat} {f : Nat → Nat} {n0 : Nat}
/-- cells that are no longer wanted -/
theorem g_drop {w w2 : va_W} (wd : va_W) (h : w.Perm (wd ++ w2)) (kk : sg_G p l e R s m args below meth c D A nL cells slots Q pc lv st w2) : sg_G p l e R s m args below meth c D A nL cells slots Q pc lv st w := by
  intro H locs ls hP hD hS hh
  have hP2 := sg_permP h hP
  have hD2 := sg_permD h hD
  have at2 : ∀ k : Nat, (wd ++ w2)[wd.length + k]? = w2[k]? := fun k => by
    rw [List.getElem?_append_right (Nat.le_add_right _ _), Nat.add_sub_cancel_left]
  refine kk H locs ls (fun k q hq => hP2 (wd.length + k) q ((at2 k).trans hq)) ⟨fun i j x y h1 h2 h3 => ?_, fun k q hq => hD2.2 (wd.length + k) q ((at2 k).trans hq)⟩ hS hh
  have := hD2.1 (wd.length + i) (wd.length + j) x y ((at2 i).trans h1) ((at2 j).trans h2) h3
  omega
theorem ls_drop (wd : va_W) {X2 : va_W} (h : X.Perm (wd ++ X2)) (kk : sg_G p l e R s m args below meth c D A nL cells slots Q pc lv st (sl_w Y ad σ X2)) : sg_G p l e R s m args below meth c D A nL cells slots Q pc lv st (sl_w Y ad σ X) := by
  refine g_drop wd ?_ kk
  rw [sl_wE, sl_wE, ← List.append_assoc]
  exact List.Perm.append_right _ h
theorem ls_perm {X2 : va_W} (h : X.Perm X2) (kk : sg_G p l e R s m args below meth c D A nL cells slots Q pc lv st (sl_w Y ad σ X2)) : sg_G p l e R s m args below meth c D A nL cells slots Q pc lv st (sl_w Y ad σ X) := by
  refine g_perm ?_ kk
  rw [sl_wE, sl_wE]
  exact List.Perm.append_right _ h
theorem sl_atX {k : Nat} {q : Nat × va_E} (h : X[k]? = some q) : (sl_w Y ad σ X)[k]? = some q := by
  rw [sl_wE, List.getElem?_append_left (List.getElem?_eq_some_iff.mp h).1]
  exact h
theorem sl_setX {k : Nat} {q : Nat × va_E} (h : k < X.length) : (sl_w Y ad σ X).set k q = sl_w Y ad σ (X.set k q) := by
  rw [sl_wE, sl_wE, List.set_append_left _ _ h]
theorem ls_chr (n : Nat) (C : sg_C p R s m args meth c cc nL own Ts D Y Z A) (hJ : sg_ZJ Z jK jV jT) (hG : GoodIn Ts (wsV own index RJ4 yJ4_append_cf468 wsJ4_append_cf468)) (hR : 6 ≤ R.frames ∧ 133 ≤ R.locals) (hroom : (st.map fun v => v.category).sum ≤ 8) {ch : Nat} (h : qb_I κ n0 f) (h88 : n0 ≤ 88) (hc : ch ≤ 127) (hcs : cells + 1 ≤ R.cells ∧ slots + 200 ≤ R.slots) (hdg : decode cc pc = .ok (.invokevirtual index, 3)) (hn : pc + 3 = n) (kk : ∀ (b2 : Nat → Nat) (κ2 : sg_S), b2 0 = b 0 → qb_I κ2 (n0 + 1) (gw_u f n0 ch) → sg_G p l e R s m args below meth c D A nL (cells + 1) (slots + 200) Q n lv (.ref (b 0) :: st) (sl_w Y ad σ (ww_J4 Y b2 κ2 ++ X))) : sg_G p l e R s m args below meth c D A nL cells slots Q pc lv (.int (nb ch) :: .ref (b 0) :: st) (sl_w Y ad σ (ww_J4 Y b κ ++ X)) := by
  obtain ⟨κ2, e7, hI⟩ := qb_chr h h88 hc
  exact g_XVr n C (As := [.int (nb ch)]) (st := st) (n0 := 1) (ci := 1) (q0 := 0) (c_J4_append_cf468 l C.2.2.2.2.2.2.2.1 hJ (ad := b) e7) hG ⟨rfl, by decide +kernel, by decide +kernel, rfl⟩ rfl hR rfl rfl (sl_cutX Y ad σ _ X (fun q => ww_J4 Y (sg_ua b 1 q) κ2)) rfl hroom hcs hdg hn rfl (fun q _ => kk (sg_ua b 1 q) κ2 rfl hI)
theorem ls_int (n : Nat) (C : sg_C p R s m args meth c cc nL own Ts D Y Z A) (hJ : sg_ZJ Z jK jV jT) (hG : GoodIn Ts (wsV own index RJ4 yJ4_append_bf812 wsJ4_append_bf812)) (hR : 6 ≤ R.frames ∧ 135 ≤ R.locals) (hroom : (st.map fun v => v.category).sum ≤ 8) {v : Nat} (h : qb_I κ n0 f) (h84 : n0 ≤ 84) (hv : v < 10000) (hcs : cells + 1 ≤ R.cells ∧ slots + 200 ≤ R.slots) (hdg : decode cc pc = .ok (.invokevirtual index, 3)) (hn : pc + 3 = n) (kk : ∀ (b2 : Nat → Nat) (κ2 : sg_S), b2 0 = b 0 → qb_I κ2 (n0 + qd_l v) (qd_f f n0 v) → sg_G p l e R s m args below meth c D A nL (cells + 1) (slots + 200) Q n lv (.ref (b 0) :: st) (sl_w Y ad σ (ww_J4 Y b2 κ2 ++ X))) : sg_G p l e R s m args below meth c D A nL cells slots Q pc lv (.int (nb v) :: .ref (b 0) :: st) (sl_w Y ad σ (ww_J4 Y b κ ++ X)) := by
  obtain ⟨κ2, e7, hI⟩ := qb_int h h84 hv
  exact g_XVr n C (As := [.int (nb v)]) (st := st) (n0 := 1) (ci := 1) (q0 := 0) (c_J4_append_bf812 l C.2.2.2.2.2.2.2.1 hJ (ad := b) e7) hG ⟨rfl, by decide +kernel, by decide +kernel, rfl⟩ rfl hR rfl rfl (sl_cutX Y ad σ _ X (fun q => ww_J4 Y (sg_ua b 1 q) κ2)) rfl hroom hcs hdg hn rfl (fun q _ => kk (sg_ua b 1 q) κ2 rfl hI)
theorem ls_chrK (n : Nat) (C : sg_C p R s m args meth c cc nL own Ts D Y Z A) (hJ : sg_ZJ Z jK jV jT) (hG : GoodIn Ts (wsV own index RJ4 yJ4_append_cf468 wsJ4_append_cf468)) (hR : 6 ≤ R.frames ∧ 133 ≤ R.locals) (hroom : (st.map fun v => v.category).sum ≤ 8) {ch : Nat} (h : qk_I κ n0 f) (h88 : n0 ≤ 430) (hc : ch ≤ 127) (hcs : cells + 1 ≤ R.cells ∧ slots + 900 ≤ R.slots) (hdg : decode cc pc = .ok (.invokevirtual index, 3)) (hn : pc + 3 = n) (kk : ∀ (b2 : Nat → Nat) (κ2 : sg_S), b2 0 = b 0 → qk_I κ2 (n0 + 1) (gw_u f n0 ch) → sg_G p l e R s m args below meth c D A nL (cells + 1) (slots + 900) Q n lv (.ref (b 0) :: st) (sl_w Y ad σ (ww_J4 Y b2 κ2 ++ X))) : sg_G p l e R s m args below meth c D A nL cells slots Q pc lv (.int (nb ch) :: .ref (b 0) :: st) (sl_w Y ad σ (ww_J4 Y b κ ++ X)) := by
  obtain ⟨κ2, e7, hI⟩ := qk_chr h h88 hc
  exact g_XVr n C (As := [.int (nb ch)]) (st := st) (n0 := 1) (ci := 1) (q0 := 0) (c_J4_append_cf468K l C.2.2.2.2.2.2.2.1 hJ (ad := b) e7) hG ⟨rfl, by decide +kernel, by decide +kernel, rfl⟩ rfl hR rfl rfl (sl_cutX Y ad σ _ X (fun q => ww_J4 Y (sg_ua b 1 q) κ2)) rfl hroom hcs hdg hn rfl (fun q _ => kk (sg_ua b 1 q) κ2 rfl hI)
theorem ls_intK (n : Nat) (C : sg_C p R s m args meth c cc nL own Ts D Y Z A) (hJ : sg_ZJ Z jK jV jT) (hG : GoodIn Ts (wsV own index RJ4 yJ4_append_bf812 wsJ4_append_bf812)) (hR : 6 ≤ R.frames ∧ 135 ≤ R.locals) (hroom : (st.map fun v => v.category).sum ≤ 8) {v : Nat} (h : qk_I κ n0 f) (h84 : n0 ≤ 420) (hv : v < 10000) (hcs : cells + 1 ≤ R.cells ∧ slots + 900 ≤ R.slots) (hdg : decode cc pc = .ok (.invokevirtual index, 3)) (hn : pc + 3 = n) (kk : ∀ (b2 : Nat → Nat) (κ2 : sg_S), b2 0 = b 0 → qk_I κ2 (n0 + qd_l v) (qd_f f n0 v) → sg_G p l e R s m args below meth c D A nL (cells + 1) (slots + 900) Q n lv (.ref (b 0) :: st) (sl_w Y ad σ (ww_J4 Y b2 κ2 ++ X))) : sg_G p l e R s m args below meth c D A nL cells slots Q pc lv (.int (nb v) :: .ref (b 0) :: st) (sl_w Y ad σ (ww_J4 Y b κ ++ X)) := by
  obtain ⟨κ2, e7, hI⟩ := qk_int h h84 hv
  exact g_XVr n C (As := [.int (nb v)]) (st := st) (n0 := 1) (ci := 1) (q0 := 0) (c_J4_append_bf812K l C.2.2.2.2.2.2.2.1 hJ (ad := b) e7) hG ⟨rfl, by decide +kernel, by decide +kernel, rfl⟩ rfl hR rfl rfl (sl_cutX Y ad σ _ X (fun q => ww_J4 Y (sg_ua b 1 q) κ2)) rfl hroom hcs hdg hn rfl (fun q _ => kk (sg_ua b 1 q) κ2 rfl hI)
/-- a text of the world put behind -/
theorem ls_str (n : Nat) (C : sg_C p R s m args meth c cc nL own Ts D Y Z A) (hJ : sg_ZJ Z jK jV jT) (hG : GoodIn Ts (wsV own index RJ4 yJ4_append_15ec4 wsJ4_append_15ec4)) (hR : 6 ≤ R.frames ∧ 134 ≤ R.locals) (hroom : (st.map fun v => v.category).sum ≤ 8) {a v w0 : Nat} {h1 z1 : Int32} {g : Nat → Nat} {bt : Nat → Int32} (h : qk_I κ n0 f) (hb : ∀ j, j < w0 → g j ≤ 127 ∧ bt j = nb (g j)) (h440 : n0 + w0 ≤ 440) (hcs : cells + 1 ≤ R.cells ∧ slots + 900 ≤ R.slots) (hdg : decode cc pc = .ok (.invokevirtual index, 3)) (hn : pc + 3 = n) (kk : ∀ (b2 : Nat → Nat) (κ2 : sg_S), b2 0 = b 0 → qk_I κ2 (n0 + w0) (ly_cat f n0 g) → (n0 + w0 ≤ 90 → qb_I κ n0 f → qb_I κ2 (n0 + w0) (ly_cat f n0 g)) → sg_G p l e R s m args below meth c D A nL (cells + 1) (slots + 900) Q n lv (.ref (b 0) :: st) (sl_w Y ad σ (ww_J4 Y b2 κ2 ++ ww_S Y a v h1 z1 w0 bt ++ X))) : sg_G p l e R s m args below meth c D A nL cells slots Q pc lv (.ref a :: .ref (b 0) :: st) (sl_w Y ad σ (ww_J4 Y b κ ++ ww_S Y a v h1 z1 w0 bt ++ X)) := by
  have h0 := h
  obtain ⟨r, hR0, hnr, h3, hf⟩ := h
  obtain ⟨κ1, r2, e1, e2, e3, e4, e5, e6, e7, e8, e9⟩ := qk_str hR0 hnr h3 hf hb h440
  refine g_XVr n C (As := [.ref a]) (st := st) (n0 := 1) (ci := 1) (q0 := 0) (cs_appendSW l C.2.2.2.2.2.2.2.1 hJ (a := a) (v := v) (h := h1) (z := z1) (n := w0) (f := bt) (ad := b) e1 h3 e2 e3 (by omega) (by omega) e4 (qk_fit hb)) hG ⟨rfl, by decide +kernel, by decide +kernel, rfl⟩ rfl hR rfl rfl (sl_cutX Y ad σ _ X (fun q => ww_J4 Y (sg_ua b 1 q) (sg_up (sg_ur κ1 1 (va_cpy bt (κ1 1) 0 n0 w0)) 0 3 (nb (n0 + w0))) ++ ww_S Y a v h1 z1 w0 bt)) rfl hroom hcs hdg hn rfl (fun q _ => kk (sg_ua b 1 q) _ rfl ⟨r2, e6, e7, e8, e9⟩ (fun h90 hq => ?_))
  obtain ⟨rq, ⟨q1, q2, q3, q4⟩, q5, q6, q7⟩ := hq
  have er : r = rq := (nb_eq (by have := hR0.1; omega) (by omega)).mp (hR0.2.1.symm.trans q2)
  obtain ⟨_, s2, s3, s4⟩ := e6
  exact ⟨r2, ⟨by omega, s2, s3, s4⟩, e7, e8, e9⟩
/-- a constant put behind -/
theorem ls_con (n : Nat) (C : sg_C p R s m args meth c cc nL own Ts D Y Z A) (hJ : sg_ZJ Z jK jV jT) (hG : GoodIn Ts (wsV own index RJ4 yJ4_append_15ec4 wsJ4_append_15ec4)) (hR : 6 ≤ R.frames ∧ 134 ≤ R.locals) (hroom : (st.map fun v => v.category).sum ≤ 8) {k : Nat} (hk : k < 15) {g : Nat → Nat} (h : qb_I κ n0 f) (hb : ∀ j, j < sg_len.getD k 0 → g j ≤ 127 ∧ (sg_byt.getD k []).getD j 0 = nb (g j)) (h90 : n0 + sg_len.getD k 0 ≤ 90) (hcs : cells + 1 ≤ R.cells ∧ slots + 900 ≤ R.slots) (hdg : decode cc pc = .ok (.invokevirtual index, 3)) (hn : pc + 3 = n) (kk : ∀ (b2 : Nat → Nat) (κ2 : sg_S), b2 0 = b 0 → qb_I κ2 (n0 + sg_len.getD k 0) (ly_cat f n0 g) → sg_G p l e R s m args below meth c D A nL (cells + 1) (slots + 900) Q n lv (.ref (b 0) :: st) (sl_w Y ad σ (ww_J4 Y b2 κ2 ++ X))) : sg_G p l e R s m args below meth c D A nL cells slots Q pc lv (.ref (jK k) :: .ref (b 0) :: st) (sl_w Y ad σ (ww_J4 Y b κ ++ X)) := by
  obtain ⟨rq, ⟨q1, q2, q3, q4⟩, q5, q6, q7⟩ := h
  obtain ⟨κ1, r2, e1, e2, e3, e4, e5, e6, e7, e8, e9⟩ := qk_str (b := fun j => (sg_byt.getD k []).getD j 0) (κ := κ) (r := rq) ⟨by omega, q2, q3, q4⟩ q5 q6 q7 hb (by omega)
  refine g_XVr n C (As := [.ref (jK k)]) (st := st) (n0 := 1) (ci := 1) (q0 := 0) (cs_appendSK l C.2.2.2.2.2.2.2.1 hJ (hk := hk) (ad := b) e1 q6 e2 e3 (by omega) (by omega) e4 (qk_fit hb)) hG ⟨rfl, by decide +kernel, by decide +kernel, rfl⟩ rfl hR rfl rfl (sl_cutX Y ad σ _ X (fun q => ww_J4 Y (sg_ua b 1 q) (sg_up (sg_ur κ1 1 (va_cpy (fun j => (sg_byt.getD k []).getD j 0) (κ1 1) 0 n0 (sg_len.getD k 0))) 0 3 (nb (n0 + sg_len.getD k 0))))) rfl hroom hcs hdg hn rfl (fun q _ => kk (sg_ua b 1 q) _ rfl ?_)
  obtain ⟨_, s2, s3, s4⟩ := e6
  exact ⟨r2, ⟨by omega, s2, s3, s4⟩, e7, e8, e9⟩
/-- a text out of a builder -/
theorem ls_toS (n : Nat) (C : sg_C p R s m args meth c cc nL own Ts D Y Z A) (hJ : sg_ZJ Z jK jV jT) (hB : sg_Zb Z) (hG : GoodIn Ts (wsV own index RJ4 yJ4_toString_0e30d wsJ4_toString_0e30d)) (hR : 6 ≤ R.frames ∧ 200 ≤ R.locals) (hroom : (st.map fun v => v.category).sum ≤ 8) (h : qk_I κ n0 f) (hcs : cells + 2 ≤ R.cells ∧ slots + (4 + n0) ≤ R.slots) (hdg : decode cc pc = .ok (.invokevirtual index, 3)) (hn : pc + 3 = n) (kk : ∀ (a v : Nat) (bt : Nat → Int32), (∀ j, j < n0 → f j ≤ 127 ∧ bt j = nb (f j)) → sg_G p l e R s m args below meth c D A nL (cells + 2) (slots + (4 + n0)) Q n lv (.ref a :: st) (sl_w Y ad σ (ww_S Y a v 0 0 n0 bt ++ X))) : sg_G p l e R s m args below meth c D A nL cells slots Q pc lv (.ref (b 0) :: st) (sl_w Y ad σ (ww_J4 Y b κ ++ X)) := by
  obtain ⟨r, ⟨q1, q2, q3, q4⟩, q5, q6, q7⟩ := h
  refine g_XVr n C (As := []) (st := st) (n0 := 0) (ci := 1) (q0 := 0) (cs_toString l C.2.2.2.2.2.2.2.1 hJ hB (ad := b) q6 q3 ⟨by rw [q2, nb_tn (by omega)]; exact q5, by rw [q2, nb_tn (by omega)]; omega⟩ (qk_fit (g := f) (fun j hj => q7 j hj))) hG ⟨rfl, by decide +kernel, by decide +kernel, rfl⟩ rfl hR rfl rfl (sl_cutX Y ad σ _ X (fun u : Nat × Nat × (Nat → Int32) => ww_J4 Y b κ ++ ww_S Y u.1 u.2.1 0 0 n0 u.2.2)) rfl hroom hcs hdg hn rfl (fun u hu => ?_)
  refine ls_drop (ww_J4 Y b κ) (List.Perm.of_eq (List.append_assoc _ _ _)) ?_
  exact kk u.1 u.2.1 u.2.2 (fun j hj => ⟨(q7 j hj).1, (hu j hj).trans (q7 j hj).2⟩)
/-- two texts that are alike -/
theorem ls_eq (n : Nat) (C : sg_C p R s m args meth c cc nL own Ts D Y Z A) (hJ : sg_ZJ Z jK jV jT) (hG : GoodIn Ts (wsV own index RJ0 yJ0_equals_9ea2d wsJ0_equals_9ea2d)) (hR : 2 ≤ R.frames ∧ 52 ≤ R.locals) (hroom : (st.map fun v => v.category).sum ≤ 8) {a v a2 v2 w0 : Nat} {h1 z1 h2 z2 : Int32} {g g2 : Nat → Int32} (hw : w0 < 100000) (hg : ∀ i, i < w0 → g i = g2 i) (hcs : cells ≤ R.cells ∧ slots ≤ R.slots) (hdg : decode cc pc = .ok (.invokevirtual index, 3)) (hn : pc + 3 = n) (kk : sg_G p l e R s m args below meth c D A nL cells slots Q n lv (.int 1 :: st) (sl_w Y ad σ (ww_S Y a v h1 z1 w0 g ++ ww_S Y a2 v2 h2 z2 w0 g2 ++ X))) : sg_G p l e R s m args below meth c D A nL cells slots Q pc lv (.ref a2 :: .ref a :: st) (sl_w Y ad σ (ww_S Y a v h1 z1 w0 g ++ ww_S Y a2 v2 h2 z2 w0 g2 ++ X)) :=
  g_callViP n C (As := [.ref a2]) (st := st) (n0 := 1) (ci := 0) (q0 := 0) (cs_equals l C.2.2.2.2.2.2.2.1 hJ hw hg) hG ⟨rfl, by decide +kernel, by decide +kernel, rfl⟩ rfl hR rfl rfl (sl_cutP Y ad σ _ X _) rfl hroom hcs hdg hn rfl kk
end SLB
