/-! THE LAW: towns -/
theorem ksL_towns_iJ4 : ∀ w ∈ u_ws RJ4 TJ4 4, w ∈ wsL_towns := by decide +kernel
theorem ksL_towns_n1 : Cond.classLink RL 67 RJ4 ∈ wsL_towns := by decide +kernel
theorem ksL_towns_n2 : Cond.instantiable RJ4 4 ∈ wsL_towns := by decide +kernel
theorem ksL_towns_n3 : Cond.initialized RJ4 ∈ wsL_towns := by decide +kernel
theorem ksL_towns_n4 : Cond.methodLink RL 69 yJ4_init_da8c8 ∈ wsL_towns := by decide +kernel
theorem ksL_towns_n5 : Cond.instanceMethod yJ4_init_da8c8 ∈ wsL_towns := by decide +kernel
theorem ksL_towns_cd : Cond.constantDouble RL 147 (4617315517961601024) ∈ wsL_towns := by decide +kernel
theorem ksL_towns_ai : Cond.arrayClass .int ∈ wsL_towns := by decide +kernel
section KT
variable {m c : Nat} {w : Nat → Nat} {σ : sg_S}
theorem k_t0 (h : cl_A m w c σ) {t : Nat} (ht : t < 5) : f_X7_townOf (nb t) (nb 0) σ = some (nb (w (10 + 4 * t))) := ce_town h ht (k := 0) (by decide)
theorem k_t1 (h : cl_A m w c σ) {t : Nat} (ht : t < 5) : f_X7_townOf (nb t) (nb 1) σ = some (nb (w (11 + 4 * t))) := (ce_town h ht (k := 1) (by decide)).trans (by rw [(by omega : 10 + 4 * t + 1 = 11 + 4 * t)])
theorem k_t2 (h : cl_A m w c σ) {t : Nat} (ht : t < 5) : f_X7_townOf (nb t) (nb 2) σ = some (nb (w (12 + 4 * t))) := (ce_town h ht (k := 2) (by decide)).trans (by rw [(by omega : 10 + 4 * t + 2 = 12 + 4 * t)])
theorem k_t3 (h : cl_A m w c σ) {t : Nat} (ht : t < 5) : f_X7_townOf (nb t) (nb 3) σ = some (nb (w (13 + 4 * t))) := (ce_town h ht (k := 3) (by decide)).trans (by rw [(by omega : 10 + 4 * t + 3 = 13 + 4 * t)])
theorem ce_mean (h : cl_A m w c σ) : f_X7_sumOf (sg_e1 2 σ) = some (nb (ga_s w 0)) := ga_cls h.1 (q := 2) (p := 1) (k := 0) rfl (Or.inl ⟨rfl, rfl⟩)
theorem ce_share (h : cl_A m w c σ) : σ 13 7 = nb (w 8) ∧ σ 13 6 = nb (w 7) := ⟨h.1.1.1 12 7 8 (by unfold nb_lk; omega), h.1.1.1 12 6 7 (by unfold nb_lk; omega)⟩
end KT
def ts_s (w : Nat → Nat) : Nat → Nat → Nat
  | 0, _ => 0
  | t + 1, k => ts_s w t k + w (10 + 4 * t + k)
def ts_f (w : Nat → Nat) (t : Nat) (g0 : Nat → Nat) (k i : Nat) : Nat := if i < k then ts_s w (t + 1) i else g0 i
theorem ts_5 (w : Nat → Nat) (k : Nat) : ts_s w 5 k = ga_s w k := by
  show 0 + w (10 + 4 * 0 + k) + w (10 + 4 * 1 + k) + w (10 + 4 * 2 + k) + w (10 + 4 * 3 + k) + w (10 + 4 * 4 + k) = _
  unfold ga_s
  omega
theorem ts_n {w : Nat → Nat} {t k : Nat} {g0 : Nat → Nat} (hg : g0 k = ts_s w t k) (i : Nat) : ts_f w t g0 (k + 1) i = if i = k then ts_f w t g0 k k + w (10 + 4 * t + k) else ts_f w t g0 k i := by
  unfold ts_f
  by_cases e : i = k
  · rw [if_pos e, if_pos (by omega), if_neg (by omega), e, hg]
    rfl
  · rw [if_neg e]
    by_cases c : i < k
    · rw [if_pos c, if_pos (by omega)]
    · rw [if_neg c, if_neg (by omega)]
theorem ts_4 {w : Nat → Nat} {t : Nat} {g0 : Nat → Nat} : ∀ i, i < 4 → ts_f w t g0 4 i = ts_s w (t + 1) i := fun i hi => by
  unfold ts_f
  rw [if_pos hi]
theorem qd_hi {f g : Nat → Nat} {n v j : Nat} (hj : j < qd_l v) : qd_f f n v (n + j) = qd_f g 0 v j := by
  unfold qd_f
  unfold qd_l at hj
  by_cases h1 : v < 10
  · rw [if_pos h1] at hj
    rw [if_pos h1, if_pos h1]
    simp only [gw_u]
    repeat' split
    all_goals first | rfl | (exfalso; omega)
  · rw [if_neg h1] at hj
    rw [if_neg h1, if_neg h1]
    by_cases h2 : v < 100
    · rw [if_pos h2] at hj
      rw [if_pos h2, if_pos h2]
      simp only [gw_u]
      repeat' split
      all_goals first | rfl | (exfalso; omega)
    · rw [if_neg h2] at hj
      rw [if_neg h2, if_neg h2]
      by_cases h3 : v < 1000
      · rw [if_pos h3] at hj
        rw [if_pos h3, if_pos h3]
        simp only [gw_u]
        repeat' split
        all_goals first | rfl | (exfalso; omega)
      · rw [if_neg h3] at hj
        rw [if_neg h3, if_neg h3]
        simp only [gw_u]
        repeat' split
        all_goals first | rfl | (exfalso; omega)
theorem qd_lo {f : Nat → Nat} {n v i : Nat} (hi : i < n) : qd_f f n v i = f i := by
  unfold qd_f
  by_cases h1 : v < 10
  · rw [if_pos h1]
    simp only [gw_u]
    repeat' split
    all_goals first | rfl | (exfalso; omega)
  · rw [if_neg h1]
    by_cases h2 : v < 100
    · rw [if_pos h2]
      simp only [gw_u]
      repeat' split
      all_goals first | rfl | (exfalso; omega)
    · rw [if_neg h2]
      by_cases h3 : v < 1000
      · rw [if_pos h3]
        simp only [gw_u]
        repeat' split
        all_goals first | rfl | (exfalso; omega)
      · rw [if_neg h3]
        simp only [gw_u]
        repeat' split
        all_goals first | rfl | (exfalso; omega)
theorem k_cata {κ : sg_S} {s : Nat × (Nat → Nat)} {v : Nat} (h : qb_I κ (s.1 + (ly_c 97 (ly_i v ly_0)).1) (ly_cat s.2 s.1 (ly_c 97 (ly_i v ly_0)).2)) : qb_I κ (ly_c 97 (ly_i v s)).1 (ly_c 97 (ly_i v s)).2 := by
  have e : s.1 + (ly_c 97 (ly_i v ly_0)).1 = (ly_c 97 (ly_i v s)).1 := by
    show s.1 + (0 + qd_l v + 1) = s.1 + qd_l v + 1
    omega
  rw [e] at h
  refine k_qc h (fun i hi => ?_)
  have hi : i < s.1 + qd_l v + 1 := hi
  show ly_cat s.2 s.1 (gw_u (qd_f (fun _ => 0) 0 v) (0 + qd_l v) 97) i = gw_u (qd_f s.2 s.1 v) (s.1 + qd_l v) 97 i
  unfold ly_cat
  by_cases c1 : i < s.1
  · rw [if_pos c1]
    unfold gw_u
    rw [if_neg (by omega)]
    exact (qd_lo c1).symm
  · rw [if_neg c1]
    unfold gw_u
    by_cases c2 : i = s.1 + qd_l v
    · rw [if_pos (by omega), if_pos c2]
    · rw [if_neg (by omega), if_neg c2]
      have := qd_hi (f := s.2) (g := fun _ => 0) (n := s.1) (v := v) (j := i - s.1) (by omega)
      rw [(by omega : s.1 + (i - s.1) = i)] at this
      exact this.symm
section SLW
variable {p : Program} {l : Launch} {e : Env} {R : Room} {s : State} {m : MethodId} {args : Array Value} {below : List Frame} {meth : Method} {c : Code} {D : va_G} {Y : Nat → ClassId} {Z : (Nat → Prop) → State → Heap → Prop} {A : Nat → Prop} {nL : Nat} {cells slots : Nat} {Q : State → Prop} {cc : ByteArray} {own : String} {Ts : List Cond} {pc : Nat} {lv : List (Nat × Value)} {st : List Value} {X : va_W} {ad b : Nat → Nat} {σ κ : sg_S} {index : Nat} {jK jV jT : Nat → Nat} {f : Nat → Nat} {n0 : Nat} {m0 c0 : Nat} {w : Nat → Nat}
theorem lw_write5 (n : Nat) (C : sg_C p R s m args meth c cc nL own Ts D Y Z A) (hJ : sg_ZJ Z jK jV jT) (hG : GoodIn Ts (wsV own index RX7 yX7_write wsX7_write)) (hR : 7 ≤ R.frames ∧ 156 ≤ R.locals) (hroom : (st.map fun v => v.category).sum ≤ 8) (hA : cl_A m0 w c0 σ) (hcs : cells + 11 ≤ R.cells ∧ slots + 2200 ≤ R.slots) (hdg : decode cc pc = .ok (.invokevirtual index, 3)) (hn : pc + 3 = n) (kk : ∀ (ad2 : Nat → Nat) (σ3 : sg_S), ad2 0 = ad 0 → cl_A m0 w c0 σ3 → cl_Q σ σ3 → sg_G p l e R s m args below meth c D A nL (cells + 11) (slots + 2200) Q n lv (.int (-1) :: st) (sl_w Y ad2 σ3 X)) : sg_G p l e R s m args below meth c D A nL cells slots Q pc lv (.int (nb 5) :: .ref (ad 0) :: st) (sl_w Y ad σ X) := by
  refine lc_write n C hJ hG hR hroom (ce_write5 σ) hcs hdg hn (fun ad2 σ3 h0 h1 h2 h3 => ?_)
  have hs : ∀ p k, p < 177 → σ3 p k = σ p k := fun p k hp => by
    by_cases c : p ≤ 13
    · exact h1 p k hp c
    · exact h2 p k (by omega) hp
  obtain ⟨nl, fl, l1, l2⟩ := hA.2.2.2.1
  exact kk ad2 σ3 h0 (cl_wr hA hs ⟨nl, fl, l1, k_qb l2 (fun p k hp => h3 p k hp)⟩) (cl_Qw hs)
theorem lw_mean (n : Nat) (C : sg_C p R s m args meth c cc nL own Ts D Y Z A) (hG : GoodIn Ts (wsV own index RX7 yX7_meanSun wsX7_meanSun)) (hR : 2 ≤ R.frames ∧ 45 ≤ R.locals) (hroom : (st.map fun v => v.category).sum ≤ 8) (hA : cl_A m0 w c0 σ) (hcs : cells ≤ R.cells ∧ slots ≤ R.slots) (hdg : decode cc pc = .ok (.invokevirtual index, 3)) (hn : pc + 3 = n) (kk : sg_G p l e R s m args below meth c D A nL cells slots Q n lv (.double (fp_mean (nb (ga_s w 0))) :: st) (sl_w Y ad σ X)) : sg_G p l e R s m args below meth c D A nL cells slots Q pc lv (.ref (ad 0) :: st) (sl_w Y ad σ X) := by
  obtain ⟨fs, hq⟩ := sl_at0 Y ad σ X
  exact g_callDd n C (As := []) (st := st) (n0 := 0) (ci := 9) (q0 := X.length) (c_X7_meanSun l C.2.2.2.2.2.2.2.1 (ad := ad) (ce_mean hA) (fp_meanN _).1) hG ⟨rfl, by decide +kernel, by decide +kernel, rfl⟩ rfl hR rfl hq (cut_rTN Y ad σ X) rfl hroom hcs hdg hn rfl kk
theorem lw_share (n : Nat) (C : sg_C p R s m args meth c cc nL own Ts D Y Z A) (hG : GoodIn Ts (wsV own index RX7 yX7_paidShare wsX7_paidShare)) (hR : 1 ≤ R.frames ∧ 20 ≤ R.locals) (hroom : (st.map fun v => v.category).sum ≤ 8) (hA : cl_A m0 w c0 σ) (hcs : cells ≤ R.cells ∧ slots ≤ R.slots) (hdg : decode cc pc = .ok (.invokevirtual index, 3)) (hn : pc + 3 = n) (kk : sg_G p l e R s m args below meth c D A nL cells slots Q n lv (.float (fp_share (nb (w 8)) (nb (w 7))) :: st) (sl_w Y ad σ X)) : sg_G p l e R s m args below meth c D A nL cells slots Q pc lv (.ref (ad 0) :: st) (sl_w Y ad σ X) := by
  obtain ⟨fs, hq⟩ := sl_at0 Y ad σ X
  have e := ce_share hA
  refine g_callDf n C (As := []) (st := st) (n0 := 0) (ci := 9) (q0 := X.length) (c_X7_paidShare l C.2.2.2.2.2.2.2.1 (ad := ad) (σ := σ) (fp_shareN _ _).1) hG ⟨rfl, by decide +kernel, by decide +kernel, rfl⟩ rfl hR rfl hq (cut_rTN Y ad σ X) rfl hroom hcs hdg hn rfl ?_
  rw [e.1, e.2]
  exact kk
end SLW
theorem ca_x {Y : Nat → ClassId} {q N : Nat} {f g : Nat → Nat} (h : ∀ i, f i = g i) : ca_A Y q N f = ca_A Y q N g := by
  rw [(funext h : f = g)]
set_option maxHeartbeats 4000000 in
set_option maxRecDepth 100000 in
theorem k_towns (l : Launch) {D : va_G} {Y : Nat → ClassId} {Z : (Nat → Prop) → State → Heap → Prop} (hZ : sg_Zok Z) {jK jV jT : Nat → Nat} (hJ : sg_ZJ Z jK jV jT) (hB : sg_Zb Z) (hL : sg_ZL Z jK) {ad : Nat → Nat} {σ : sg_S} {m0 c0 : Nat} {w : Nat → Nat} (hA : cl_A m0 w c0 σ) (hm : m0 ≤ 31) : sg_XI l yL_towns wsL_towns 8 240 400 80000 D Y Z [.ref (ad 0)] (sl_w Y ad σ []) (fun (r : Int32) (u : (Nat → Nat) × sg_S) => r = 1 ∧ u.1 0 = ad 0 ∧ cl_A m0 w c0 u.2 ∧ cl_Q σ u.2) (fun u => sl_w Y u.1 u.2 []) := by
  intro sz
  refine sg_enterX (own := RL) (maxL := 8) (ret := (some .boolean)) (cc := cL_towns) (by decide +kernel) rfl rfl (Nat.le_of_ble_eq_true rfl) hZ ?_
  intro p e s m args below meth cd C hr hin Q hQ hsz
  have hLL := hL _ _ _ C.2.2.2.2.2.2.2.2.1
  obtain ⟨⟨hI0, hE1, hE2, hE3, hE4, hE5, hE6, hE7, hE8, hE9, hE10⟩, hJ1, hJ2, hJ3, _⟩ := hA.2.1
  have hga : ga_s w 0 = ge_s w := rfl
  refine g_lv (lv2 := [(0, .ref (ad 0))]) [0] rfl ?_
  refine g_iconst 1 C (nb 4) dL_towns_0 rfl (by decide) ?_
  refine ls_newI 3 C (N := 4) ksL_towns_ai (by decide) rfl (by decide) ⟨(Nat.le_of_ble_eq_true rfl), (Nat.le_of_ble_eq_true rfl)⟩ dL_towns_1 rfl (fun q1 => ?_)
  refine g_astore_n 4 C [(1, .ref q1), (0, .ref (ad 0))] dL_towns_3 rfl rfl (by decide) rfl ?_
  refine g_iconst 5 C (-1) dL_towns_4 rfl (by decide) ?_
  refine g_istore_n 6 C [(2, .int (-1)), (1, .ref q1), (0, .ref (ad 0))] dL_towns_5 rfl rfl (by decide) rfl ?_
  refine g_iconst 7 C (nb 0) dL_towns_6 rfl (by decide) ?_
  refine g_istore_n 8 C [(3, .int (nb 0)), (2, .int (-1)), (1, .ref q1), (0, .ref (ad 0))] dL_towns_7 rfl rfl (by decide) rfl ?_
  refine g_lv (lv2 := [(3, .int (nb 0)), (2, .int (-1)), (1, .ref q1), (0, .ref (ad 0))]) [0, 1, 2, 3] rfl ?_
  have L2 : ∀ (ad2 : Nat → Nat) (σ2 : sg_S) (last : Int32) (g0 : Nat → Nat) (t cells slots : Nat), (∀ i, i < 4 → g0 i = ts_s w t i) → cl_A m0 w c0 σ2 → t < 5 → cells ≤ 400 → slots ≤ 80000 → sg_G p l e { frames := 8, cells := 400, slots := 80000, locals := 240 } s m args below meth cd D (va_A (sl_w Y ad σ []) s.heap.size) 8 cells slots Q 42 [(4, .int (nb 4)), (3, .int (nb t)), (2, .int last), (1, .ref q1), (0, .ref (ad2 0))] [] (sl_w Y ad2 σ2 ([ca_A Y q1 4 (ts_f w t g0 4)])) → ∀ (d k : Nat), k + d = 4 → sg_G p l e { frames := 8, cells := 400, slots := 80000, locals := 240 } s m args below meth cd D (va_A (sl_w Y ad σ []) s.heap.size) 8 cells slots Q 16 [(4, .int (nb k)), (3, .int (nb t)), (2, .int last), (1, .ref q1), (0, .ref (ad2 0))] [] (sl_w Y ad2 σ2 ([ca_A Y q1 4 (ts_f w t g0 k)])) := by
    intro ad2 σ2 last g0 t cells slots hg hA2 ht hc hs hend d
    induction d with
    | zero =>
      intro k h1
      refine g_iload 18 C dL_towns_16 rfl rfl ?_
      refine g_iconst 19 C (nb 4) dL_towns_18 rfl (by decide) ?_
      refine g_icmp_ge 22 42 C dL_towns_19 (by decide) rfl (T := some ()) (E := none) (v := ()) (if_neg (nb_lt_f (by omega) (by omega))) (fun _ => ?_) (fun h => by cases h)
      have hk : k = 4 := by omega
      subst hk
      exact hend
    | succ d ih =>
      intro k h1
      refine g_iload 18 C dL_towns_16 rfl rfl ?_
      refine g_iconst 19 C (nb 4) dL_towns_18 rfl (by decide) ?_
      refine g_icmp_ge 22 42 C dL_towns_19 (by decide) rfl (T := none) (E := some ()) (v := ()) (if_pos (nb_lt_t (by omega) (by omega))) (fun h => by cases h) (fun _ => ?_)
      refine g_aload_n 23 C dL_towns_22 rfl rfl rfl ?_
      refine g_iload 25 C dL_towns_23 rfl rfl ?_
      refine g_dup2 26 C dL_towns_25 rfl rfl rfl ?_
      refine ca_get 27 C 0 (g := ts_f w t g0 k) (N := 4) rfl (by omega) (by decide) dL_towns_26 rfl ?_
      refine g_aload_n 28 C dL_towns_27 rfl rfl rfl ?_
      refine g_iload_n 29 C dL_towns_28 rfl rfl rfl ?_
      refine g_iload 31 C dL_towns_29 rfl rfl ?_
      refine lc_townOf 34 C gL_towns_X7_townOf ⟨(Nat.le_of_ble_eq_true rfl), (Nat.le_of_ble_eq_true rfl)⟩ (Nat.le_of_ble_eq_true rfl) (ce_town hA2 ht (by omega : k < 4)) ⟨by dsimp only; omega, by dsimp only; omega⟩ dL_towns_31 rfl ?_
      refine g_iadd 35 C dL_towns_34 rfl ?_
      refine g_top (v := (nb (ts_f w t g0 k k + w (10 + 4 * t + k)))) (nb_add _ _).symm ?_
      refine ca_put 36 C 0 (g := ts_f w t g0 k) (g2 := ts_f w t g0 (k + 1)) (N := 4) (X2 := [ca_A Y q1 4 (ts_f w t g0 (k + 1))]) rfl (by omega) (by decide) (ts_n (hg k (by omega))) rfl dL_towns_35 rfl ?_
      refine g_iinc 39 C 0 (nb (k + 1)) [(4, .int (nb (k + 1))), (3, .int (nb t)), (2, .int last), (1, .ref q1), (0, .ref (ad2 0))] dL_towns_36 rfl rfl (nb_succ k) (by decide) rfl ?_
      refine g_goto 16 C dL_towns_39 (by decide) ?_
      exact ih (k + 1) (by omega)
  have L1 : (∀ (ad2 : Nat → Nat) (σ2 : sg_S) (last : Int32) (g0 : Nat → Nat) (cells slots : Nat), ad2 0 = ad 0 → cl_A m0 w c0 σ2 → cl_Q σ σ2 → (∀ i, i < 4 → g0 i = ts_s w 5 i) → cells ≤ 381 → slots ≤ 76004 → sg_G p l e { frames := 8, cells := 400, slots := 80000, locals := 240 } s m args below meth cd D (va_A (sl_w Y ad σ []) s.heap.size) 8 cells slots Q 328 [(3, .int (nb 5)), (2, .int last), (1, .ref q1), (0, .ref (ad2 0))] [] (sl_w Y ad2 σ2 ([ca_A Y q1 4 g0]))) → ∀ (d t : Nat) (ad2 : Nat → Nat) (σ2 : sg_S) (last : Int32) (g0 : Nat → Nat) (cells slots : Nat), t + d = 5 → ad2 0 = ad 0 → cl_A m0 w c0 σ2 → cl_Q σ σ2 → ((t = 0 ∧ last = -1) ∨ (1 ≤ t ∧ ∃ lr, lr < 5 ∧ last = nb lr ∧ rk_c (fun o => go_A w o lr) 5 = t - 1)) → (∀ i, i < 4 → g0 i = ts_s w t i) → cells ≤ 1 + 76 * t → slots ≤ 4 + 15200 * t → sg_G p l e { frames := 8, cells := 400, slots := 80000, locals := 240 } s m args below meth cd D (va_A (sl_w Y ad σ []) s.heap.size) 8 cells slots Q 8 [(3, .int (nb t)), (2, .int last), (1, .ref q1), (0, .ref (ad2 0))] [] (sl_w Y ad2 σ2 ([ca_A Y q1 4 g0])) := by
    intro hend d
    induction d with
    | zero =>
      intro t ad2 σ2 last g0 cells slots h1 h0 hA2 hQ2 hl hg h2 h3
      refine g_iload_n 9 C dL_towns_8 rfl rfl rfl ?_
      refine g_iconst 10 C (nb 5) dL_towns_9 rfl (by decide) ?_
      refine g_icmp_ge 13 328 C dL_towns_10 (by decide) rfl (T := some ()) (E := none) (v := ()) (if_neg (nb_lt_f (by omega) (by omega))) (fun _ => ?_) (fun h => by cases h)
      have ht : t = 5 := by omega
      subst ht
      exact hend ad2 σ2 last g0 cells slots h0 hA2 hQ2 hg h2 h3
    | succ d ih =>
      intro t ad2 σ2 last g0 cells slots h1 h0 hA2 hQ2 hl hg h2 h3
      have ht : t < 5 := by omega
      obtain ⟨b1, b2, b3, b4⟩ := hJ3 t ht
      refine g_iload_n 9 C dL_towns_8 rfl rfl rfl ?_
      refine g_iconst 10 C (nb 5) dL_towns_9 rfl (by decide) ?_
      refine g_icmp_ge 13 328 C dL_towns_10 (by decide) rfl (T := none) (E := some ()) (v := ()) (if_pos (nb_lt_t (by omega) (by omega))) (fun h => by cases h) (fun _ => ?_)
      refine g_iconst 14 C (nb 0) dL_towns_13 rfl (by decide) ?_
      refine g_istore 16 C [(4, .int (nb 0)), (3, .int (nb t)), (2, .int last), (1, .ref q1), (0, .ref (ad2 0))] dL_towns_14 rfl (by decide) rfl ?_
      have eg : ca_A Y q1 4 g0 = ca_A Y q1 4 (ts_f w t g0 0) := ca_x (fun i => by unfold ts_f; rw [if_neg (by omega)])
      rw [eg]
      refine L2 ad2 σ2 last g0 t cells slots hg hA2 ht (by omega) (by omega) ?_ 4 0 (by omega)
      refine g_lv (lv2 := [(3, .int (nb t)), (2, .int last), (1, .ref q1), (0, .ref (ad2 0))]) [1, 2, 3, 4] rfl ?_
      refine ls_new 49 C hJ ksL_towns_iJ4 ksL_towns_n1 ksL_towns_n2 ksL_towns_n3 gL_towns_J4_init_da8c8 ksL_towns_n4 ksL_towns_n5 ⟨(Nat.le_of_ble_eq_true rfl), (Nat.le_of_ble_eq_true rfl)⟩ (Nat.le_of_ble_eq_true rfl) ⟨by dsimp only; omega, by dsimp only; omega⟩ dL_towns_42 dL_towns_45 dL_towns_46 rfl (fun b0 => ?_)
      have d0 := qd_l1 (v := t) (by omega)
      have d1 := qd_l2 (v := w (10 + 4 * t)) (by omega)
      have d2 := qd_l2 (v := w (11 + 4 * t)) (by omega)
      have d3 := qd_l1 (v := w (12 + 4 * t)) (by omega)
      have d4 := qd_l4 (w (13 + 4 * t))
      have hq0 : qb_I iJ4 ly_0.1 ly_0.2 := k_nil _
      refine g_iload_n 50 C dL_towns_49 rfl rfl rfl ?_
      refine ls_int 53 C hJ gL_towns_J4_append_bf812 ⟨(Nat.le_of_ble_eq_true rfl), (Nat.le_of_ble_eq_true rfl)⟩ (Nat.le_of_ble_eq_true rfl) hq0 (by try dsimp only [ly_0, ly_c, ly_i]; omega) (by omega) ⟨by dsimp only; omega, by dsimp only; omega⟩ dL_towns_50 rfl (fun b1 κ1 hb1 hq1 => ?_)
      rw [← hb1]
      have hq1 : qb_I κ1 (ly_i t ly_0).1 (ly_i t ly_0).2 := hq1
      refine g_ldcS 55 C hLL.2.1 dL_towns_53 rfl ?_
      refine ls_con 58 C hJ gL_towns_J4_append_15ec4 ⟨(Nat.le_of_ble_eq_true rfl), (Nat.le_of_ble_eq_true rfl)⟩ (Nat.le_of_ble_eq_true rfl) (k := 10) (by decide) (g := fun _ => 58) hq1 (fun j hj => ⟨by decide, by rw [show j = 0 from by have : j < 1 := hj; omega]; rfl⟩) (by show _ + 1 ≤ 90; try dsimp only [ly_0, ly_c, ly_i]; omega) ⟨by dsimp only; omega, by dsimp only; omega⟩ dL_towns_55 rfl (fun b2 κ2 hb2 hq2a => ?_)
      rw [← hb2]
      have hq2 : qb_I κ2 (ly_c 58 (ly_i t ly_0)).1 (ly_c 58 (ly_i t ly_0)).2 := k_cat hq2a
      refine g_aload_n 59 C dL_towns_58 rfl rfl rfl ?_
      refine g_iload_n 60 C dL_towns_59 rfl rfl rfl ?_
      refine g_iconst 61 C (nb 0) dL_towns_60 rfl (by decide) ?_
      refine lc_townOf 64 C gL_towns_X7_townOf ⟨(Nat.le_of_ble_eq_true rfl), (Nat.le_of_ble_eq_true rfl)⟩ (Nat.le_of_ble_eq_true rfl) (k_t0 hA2 (by omega : t < 5)) ⟨by dsimp only; omega, by dsimp only; omega⟩ dL_towns_61 rfl ?_
      refine ls_int 67 C hJ gL_towns_J4_append_bf812 ⟨(Nat.le_of_ble_eq_true rfl), (Nat.le_of_ble_eq_true rfl)⟩ (Nat.le_of_ble_eq_true rfl) hq2 (by try dsimp only [ly_0, ly_c, ly_i]; omega) (by omega) ⟨by dsimp only; omega, by dsimp only; omega⟩ dL_towns_64 rfl (fun b3 κ3 hb3 hq3 => ?_)
      rw [← hb3]
      have hq3 : qb_I κ3 (ly_i (w (10 + 4 * t)) (ly_c 58 (ly_i t ly_0))).1 (ly_i (w (10 + 4 * t)) (ly_c 58 (ly_i t ly_0))).2 := hq3
      refine g_ldcS 69 C hLL.2.2.1 dL_towns_67 rfl ?_
      refine ls_con 72 C hJ gL_towns_J4_append_15ec4 ⟨(Nat.le_of_ble_eq_true rfl), (Nat.le_of_ble_eq_true rfl)⟩ (Nat.le_of_ble_eq_true rfl) (k := 11) (by decide) (g := fun _ => 115) hq3 (fun j hj => ⟨by decide, by rw [show j = 0 from by have : j < 1 := hj; omega]; rfl⟩) (by show _ + 1 ≤ 90; try dsimp only [ly_0, ly_c, ly_i]; omega) ⟨by dsimp only; omega, by dsimp only; omega⟩ dL_towns_69 rfl (fun b4 κ4 hb4 hq4a => ?_)
      rw [← hb4]
      have hq4 : qb_I κ4 (ly_c 115 (ly_i (w (10 + 4 * t)) (ly_c 58 (ly_i t ly_0)))).1 (ly_c 115 (ly_i (w (10 + 4 * t)) (ly_c 58 (ly_i t ly_0)))).2 := k_cat hq4a
      refine g_aload_n 73 C dL_towns_72 rfl rfl rfl ?_
      refine g_iload_n 74 C dL_towns_73 rfl rfl rfl ?_
      refine g_iconst 75 C (nb 1) dL_towns_74 rfl (by decide) ?_
      refine lc_townOf 78 C gL_towns_X7_townOf ⟨(Nat.le_of_ble_eq_true rfl), (Nat.le_of_ble_eq_true rfl)⟩ (Nat.le_of_ble_eq_true rfl) (k_t1 hA2 (by omega : t < 5)) ⟨by dsimp only; omega, by dsimp only; omega⟩ dL_towns_75 rfl ?_
      refine ls_int 81 C hJ gL_towns_J4_append_bf812 ⟨(Nat.le_of_ble_eq_true rfl), (Nat.le_of_ble_eq_true rfl)⟩ (Nat.le_of_ble_eq_true rfl) hq4 (by try dsimp only [ly_0, ly_c, ly_i]; omega) (by omega) ⟨by dsimp only; omega, by dsimp only; omega⟩ dL_towns_78 rfl (fun b5 κ5 hb5 hq5 => ?_)
      rw [← hb5]
      have hq5 : qb_I κ5 (ly_i (w (11 + 4 * t)) (ly_c 115 (ly_i (w (10 + 4 * t)) (ly_c 58 (ly_i t ly_0))))).1 (ly_i (w (11 + 4 * t)) (ly_c 115 (ly_i (w (10 + 4 * t)) (ly_c 58 (ly_i t ly_0))))).2 := hq5
      refine g_ldcS 83 C hLL.2.2.2.1 dL_towns_81 rfl ?_
      refine ls_con 86 C hJ gL_towns_J4_append_15ec4 ⟨(Nat.le_of_ble_eq_true rfl), (Nat.le_of_ble_eq_true rfl)⟩ (Nat.le_of_ble_eq_true rfl) (k := 12) (by decide) (g := fun _ => 114) hq5 (fun j hj => ⟨by decide, by rw [show j = 0 from by have : j < 1 := hj; omega]; rfl⟩) (by show _ + 1 ≤ 90; try dsimp only [ly_0, ly_c, ly_i]; omega) ⟨by dsimp only; omega, by dsimp only; omega⟩ dL_towns_83 rfl (fun b6 κ6 hb6 hq6a => ?_)
      rw [← hb6]
      have hq6 : qb_I κ6 (ly_c 114 (ly_i (w (11 + 4 * t)) (ly_c 115 (ly_i (w (10 + 4 * t)) (ly_c 58 (ly_i t ly_0)))))).1 (ly_c 114 (ly_i (w (11 + 4 * t)) (ly_c 115 (ly_i (w (10 + 4 * t)) (ly_c 58 (ly_i t ly_0)))))).2 := k_cat hq6a
      refine g_aload_n 87 C dL_towns_86 rfl rfl rfl ?_
      refine g_iload_n 88 C dL_towns_87 rfl rfl rfl ?_
      refine g_iconst 89 C (nb 2) dL_towns_88 rfl (by decide) ?_
      refine lc_townOf 92 C gL_towns_X7_townOf ⟨(Nat.le_of_ble_eq_true rfl), (Nat.le_of_ble_eq_true rfl)⟩ (Nat.le_of_ble_eq_true rfl) (k_t2 hA2 (by omega : t < 5)) ⟨by dsimp only; omega, by dsimp only; omega⟩ dL_towns_89 rfl ?_
      refine ls_int 95 C hJ gL_towns_J4_append_bf812 ⟨(Nat.le_of_ble_eq_true rfl), (Nat.le_of_ble_eq_true rfl)⟩ (Nat.le_of_ble_eq_true rfl) hq6 (by try dsimp only [ly_0, ly_c, ly_i]; omega) (by omega) ⟨by dsimp only; omega, by dsimp only; omega⟩ dL_towns_92 rfl (fun b7 κ7 hb7 hq7 => ?_)
      rw [← hb7]
      have hq7 : qb_I κ7 (ly_i (w (12 + 4 * t)) (ly_c 114 (ly_i (w (11 + 4 * t)) (ly_c 115 (ly_i (w (10 + 4 * t)) (ly_c 58 (ly_i t ly_0))))))).1 (ly_i (w (12 + 4 * t)) (ly_c 114 (ly_i (w (11 + 4 * t)) (ly_c 115 (ly_i (w (10 + 4 * t)) (ly_c 58 (ly_i t ly_0))))))).2 := hq7
      refine g_ldcS 97 C hLL.2.2.2.2.1 dL_towns_95 rfl ?_
      refine ls_con 100 C hJ gL_towns_J4_append_15ec4 ⟨(Nat.le_of_ble_eq_true rfl), (Nat.le_of_ble_eq_true rfl)⟩ (Nat.le_of_ble_eq_true rfl) (k := 13) (by decide) (g := fun _ => 117) hq7 (fun j hj => ⟨by decide, by rw [show j = 0 from by have : j < 1 := hj; omega]; rfl⟩) (by show _ + 1 ≤ 90; try dsimp only [ly_0, ly_c, ly_i]; omega) ⟨by dsimp only; omega, by dsimp only; omega⟩ dL_towns_97 rfl (fun b8 κ8 hb8 hq8a => ?_)
      rw [← hb8]
      have hq8 : qb_I κ8 (ly_c 117 (ly_i (w (12 + 4 * t)) (ly_c 114 (ly_i (w (11 + 4 * t)) (ly_c 115 (ly_i (w (10 + 4 * t)) (ly_c 58 (ly_i t ly_0)))))))).1 (ly_c 117 (ly_i (w (12 + 4 * t)) (ly_c 114 (ly_i (w (11 + 4 * t)) (ly_c 115 (ly_i (w (10 + 4 * t)) (ly_c 58 (ly_i t ly_0)))))))).2 := k_cat hq8a
      have hq8 : qb_I κ8 (ly_w w t).1 (ly_w w t).2 := hq8
      have hw5 : (ly_w w t).1 ≤ 11 := by
        show 0 + qd_l t + 1 + qd_l (w (10 + 4 * t)) + 1 + qd_l (w (11 + 4 * t)) + 1 + qd_l (w (12 + 4 * t)) + 1 ≤ 11
        omega
      have K141 : ∀ (b9 : Nat → Nat) (κ9 : sg_S) (c1 s1 : Nat), c1 ≤ cells + 20 → s1 ≤ slots + 7500 → qb_I κ9 (ly_v w t).1 (ly_v w t).2 → sg_G p l e { frames := 8, cells := 400, slots := 80000, locals := 240 } s m args below meth cd D (va_A (sl_w Y ad σ []) s.heap.size) 8 c1 s1 Q 141 [(3, .int (nb t)), (2, .int last), (1, .ref q1), (0, .ref (ad2 0))] [.ref (b9 0)] (sl_w Y ad2 σ2 (ww_J4 Y b9 κ9 ++ [ca_A Y q1 4 (ts_f w t g0 4)])) := by
        intro b9 κ9 c1 s1 hc1 hs1 hq9
        have hv := ly_vB hA.2.1.2 ht
        refine ls_toS 144 C hJ hB gL_towns_J4_toString_0e30d ⟨(Nat.le_of_ble_eq_true rfl), (Nat.le_of_ble_eq_true rfl)⟩ (Nat.le_of_ble_eq_true rfl) (qk_of hq9) ⟨by dsimp only; omega, by dsimp only; omega⟩ dL_towns_141 rfl (fun a v bt hbt => ?_)
        refine g_astore 146 C [(4, .ref a), (3, .int (nb t)), (2, .int last), (1, .ref q1), (0, .ref (ad2 0))] dL_towns_144 rfl (by decide) rfl ?_
        refine g_aload_n 147 C dL_towns_146 rfl rfl rfl ?_
        refine g_iload_n 148 C dL_towns_147 rfl rfl rfl ?_
        refine g_iconst 149 C (nb 0) dL_towns_148 rfl (by decide) ?_
        refine lc_townOf 152 C gL_towns_X7_townOf ⟨(Nat.le_of_ble_eq_true rfl), (Nat.le_of_ble_eq_true rfl)⟩ (Nat.le_of_ble_eq_true rfl) (k_t0 hA2 (by omega : t < 5)) ⟨by dsimp only; omega, by dsimp only; omega⟩ dL_towns_149 rfl ?_
        refine g_if_lt 155 219 C dL_towns_152 (by decide) rfl (T := none) (E := some ()) (v := ()) (if_pos (nb_0le (by omega))) (fun h => by cases h) (fun _ => ?_)
        refine g_aload_n 156 C dL_towns_155 rfl rfl rfl ?_
        refine g_iload_n 157 C dL_towns_156 rfl rfl rfl ?_
        refine g_iconst 158 C (nb 0) dL_towns_157 rfl (by decide) ?_
        refine lc_townOf 161 C gL_towns_X7_townOf ⟨(Nat.le_of_ble_eq_true rfl), (Nat.le_of_ble_eq_true rfl)⟩ (Nat.le_of_ble_eq_true rfl) (k_t0 hA2 (by omega : t < 5)) ⟨by dsimp only; omega, by dsimp only; omega⟩ dL_towns_158 rfl ?_
        refine g_bipush 163 C (nb 60) dL_towns_161 rfl (by decide) ?_
        refine g_icmp_gt 166 219 C dL_towns_163 (by decide) rfl (T := none) (E := some ()) (v := ()) (if_pos (nb_le_t (by omega) (by omega))) (fun h => by cases h) (fun _ => ?_)
        refine g_aload_n 167 C dL_towns_166 rfl rfl rfl ?_
        refine g_iload_n 168 C dL_towns_167 rfl rfl rfl ?_
        refine g_iconst 169 C (nb 1) dL_towns_168 rfl (by decide) ?_
        refine lc_townOf 172 C gL_towns_X7_townOf ⟨(Nat.le_of_ble_eq_true rfl), (Nat.le_of_ble_eq_true rfl)⟩ (Nat.le_of_ble_eq_true rfl) (k_t1 hA2 (by omega : t < 5)) ⟨by dsimp only; omega, by dsimp only; omega⟩ dL_towns_169 rfl ?_
        refine g_if_lt 175 219 C dL_towns_172 (by decide) rfl (T := none) (E := some ()) (v := ()) (if_pos (nb_0le (by omega))) (fun h => by cases h) (fun _ => ?_)
        refine g_aload_n 176 C dL_towns_175 rfl rfl rfl ?_
        refine g_iload_n 177 C dL_towns_176 rfl rfl rfl ?_
        refine g_iconst 178 C (nb 1) dL_towns_177 rfl (by decide) ?_
        refine lc_townOf 181 C gL_towns_X7_townOf ⟨(Nat.le_of_ble_eq_true rfl), (Nat.le_of_ble_eq_true rfl)⟩ (Nat.le_of_ble_eq_true rfl) (k_t1 hA2 (by omega : t < 5)) ⟨by dsimp only; omega, by dsimp only; omega⟩ dL_towns_178 rfl ?_
        refine g_bipush 183 C (nb 60) dL_towns_181 rfl (by decide) ?_
        refine g_icmp_gt 186 219 C dL_towns_183 (by decide) rfl (T := none) (E := some ()) (v := ()) (if_pos (nb_le_t (by omega) (by omega))) (fun h => by cases h) (fun _ => ?_)
        refine g_aload_n 187 C dL_towns_186 rfl rfl rfl ?_
        refine g_iload_n 188 C dL_towns_187 rfl rfl rfl ?_
        refine g_iconst 189 C (nb 2) dL_towns_188 rfl (by decide) ?_
        refine lc_townOf 192 C gL_towns_X7_townOf ⟨(Nat.le_of_ble_eq_true rfl), (Nat.le_of_ble_eq_true rfl)⟩ (Nat.le_of_ble_eq_true rfl) (k_t2 hA2 (by omega : t < 5)) ⟨by dsimp only; omega, by dsimp only; omega⟩ dL_towns_189 rfl ?_
        refine g_if_lt 195 219 C dL_towns_192 (by decide) rfl (T := none) (E := some ()) (v := ()) (if_pos (nb_0le (by omega))) (fun h => by cases h) (fun _ => ?_)
        refine g_aload_n 196 C dL_towns_195 rfl rfl rfl ?_
        refine g_iload_n 197 C dL_towns_196 rfl rfl rfl ?_
        refine g_iconst 198 C (nb 2) dL_towns_197 rfl (by decide) ?_
        refine lc_townOf 201 C gL_towns_X7_townOf ⟨(Nat.le_of_ble_eq_true rfl), (Nat.le_of_ble_eq_true rfl)⟩ (Nat.le_of_ble_eq_true rfl) (k_t2 hA2 (by omega : t < 5)) ⟨by dsimp only; omega, by dsimp only; omega⟩ dL_towns_198 rfl ?_
        refine g_bipush 203 C (nb 9) dL_towns_201 rfl (by decide) ?_
        refine g_icmp_gt 206 219 C dL_towns_203 (by decide) rfl (T := none) (E := some ()) (v := ()) (if_pos (nb_le_t (by omega) (by omega))) (fun h => by cases h) (fun _ => ?_)
        refine g_aload_n 207 C dL_towns_206 rfl rfl rfl ?_
        refine g_iload_n 208 C dL_towns_207 rfl rfl rfl ?_
        refine g_iconst 209 C (nb 3) dL_towns_208 rfl (by decide) ?_
        refine lc_townOf 212 C gL_towns_X7_townOf ⟨(Nat.le_of_ble_eq_true rfl), (Nat.le_of_ble_eq_true rfl)⟩ (Nat.le_of_ble_eq_true rfl) (k_t3 hA2 (by omega : t < 5)) ⟨by dsimp only; omega, by dsimp only; omega⟩ dL_towns_209 rfl ?_
        refine g_if_lt 215 219 C dL_towns_212 (by decide) rfl (T := none) (E := some ()) (v := ()) (if_pos (nb_0le (by omega))) (fun h => by cases h) (fun _ => ?_)
        refine g_iconst 216 C (nb 1) dL_towns_215 rfl (by decide) ?_
        refine g_goto 220 C dL_towns_216 (by decide) ?_
        refine g_istore 222 C [(5, .int (nb 1)), (4, .ref a), (3, .int (nb t)), (2, .int last), (1, .ref q1), (0, .ref (ad2 0))] dL_towns_220 rfl (by decide) rfl ?_
        refine g_aload_n 223 C dL_towns_222 rfl rfl rfl ?_
        refine g_iload_n 224 C dL_towns_223 rfl rfl rfl ?_
        obtain ⟨rr, hr1, hr2, hr3⟩ := rk_ranked1 hA2 ht
        refine lc_ranked 227 C gL_towns_X7_ranked ⟨(Nat.le_of_ble_eq_true rfl), (Nat.le_of_ble_eq_true rfl)⟩ (Nat.le_of_ble_eq_true rfl) hr2 ⟨by dsimp only; omega, by dsimp only; omega⟩ dL_towns_224 rfl ?_
        refine g_istore 229 C [(6, .int (nb rr)), (5, .int (nb 1)), (4, .ref a), (3, .int (nb t)), (2, .int last), (1, .ref q1), (0, .ref (ad2 0))] dL_towns_227 rfl (by decide) rfl ?_
        have K300 : sg_G p l e { frames := 8, cells := 400, slots := 80000, locals := 240 } s m args below meth cd D (va_A (sl_w Y ad σ []) s.heap.size) 8 (c1 + 2) (s1 + (4 + (ly_v w t).1)) Q 300 [(6, .int (nb rr)), (5, .int (nb 1)), (4, .ref a), (3, .int (nb t)), (2, .int last), (1, .ref q1), (0, .ref (ad2 0))] [] (sl_w Y ad2 σ2 (ww_S Y a v 0 0 (ly_v w t).1 bt ++ [ca_A Y q1 4 (ts_f w t g0 4)])) := by
          refine g_aload_n 301 C dL_towns_300 rfl rfl rfl ?_
          refine g_aload_n 302 C dL_towns_301 rfl rfl rfl ?_
          refine g_iload_n 303 C dL_towns_302 rfl rfl rfl ?_
          refine lw_write 306 C hJ gL_towns_X7_write ⟨(Nat.le_of_ble_eq_true rfl), (Nat.le_of_ble_eq_true rfl)⟩ (Nat.le_of_ble_eq_true rfl) hA2 ht ⟨by dsimp only; omega, by dsimp only; omega⟩ dL_towns_303 rfl (fun ad3 σ3 g0' g1 g2 g3 g4 => ?_)
          rw [← g0']
          refine lk_line 309 C hJ hB gL_towns_L_line ⟨(Nat.le_of_ble_eq_true rfl), (Nat.le_of_ble_eq_true rfl)⟩ (Nat.le_of_ble_eq_true rfl) g3 (by omega) ⟨by dsimp only; omega, by dsimp only; omega⟩ dL_towns_306 rfl (fun a1 v1 bt1 hbt1 => ?_)
          refine g_aload 311 C dL_towns_309 rfl rfl ?_
          refine ls_perm (List.Perm.of_eq (List.append_assoc _ _ _).symm) ?_
          refine ls_eq 314 C hJ gL_towns_J0_equals_9ea2d ⟨(Nat.le_of_ble_eq_true rfl), (Nat.le_of_ble_eq_true rfl)⟩ (Nat.le_of_ble_eq_true rfl) (by omega) (fun i hi => (hbt1 i hi).2.trans (hbt i hi).2.symm) ⟨by dsimp only; omega, by dsimp only; omega⟩ dL_towns_311 rfl ?_
          refine g_if_ne 317 319 C dL_towns_314 (by decide) rfl (T := some ()) (E := none) (v := ()) (if_neg (by decide)) (fun _ => ?_) (fun h => by cases h)
          refine g_iload 321 C dL_towns_319 rfl rfl ?_
          refine g_istore_n 322 C [(2, .int (nb rr)), (6, .int (nb rr)), (5, .int (nb 1)), (4, .ref a), (3, .int (nb t)), (1, .ref q1), (0, .ref (ad3 0))] dL_towns_321 rfl rfl (by decide) rfl ?_
          refine ls_drop (X2 := [ca_A Y q1 4 (ts_f w t g0 4)]) (ww_S Y a1 v1 0 0 (ly_v w t).1 bt1 ++ ww_S Y a v 0 0 (ly_v w t).1 bt) (List.Perm.refl _) ?_
          refine g_lv (lv2 := [(3, .int (nb t)), (2, .int (nb rr)), (1, .ref q1), (0, .ref (ad3 0))]) [4, 0, 5, 6] rfl ?_
          refine g_iinc 325 C 0 (nb (t + 1)) [(3, .int (nb (t + 1))), (2, .int (nb rr)), (1, .ref q1), (0, .ref (ad3 0))] dL_towns_322 rfl rfl (nb_succ t) (by decide) rfl ?_
          refine g_goto 8 C dL_towns_325 (by decide) ?_
          exact ih (t + 1) ad3 σ3 (nb rr) (ts_f w t g0 4) _ _ (by omega) (g0'.trans h0) g1 (cl_Qt hQ2 (cl_Qw g2)) (Or.inr ⟨by omega, rr, hr1, rfl, by omega⟩) (fun i hi => ts_4 i hi) (by omega) (by omega)
        refine g_iload_n 230 C dL_towns_229 rfl rfl rfl ?_
        rcases hl with ⟨hl0, hl1⟩ | ⟨hl0, lr, hl1, hl2, hl3⟩
        · skip
          subst hl1
          refine g_if_ge 233 237 C dL_towns_230 (by decide) rfl (T := none) (E := some ()) (v := ()) (if_pos (by decide)) (fun h => by cases h) (fun _ => ?_)
          refine g_iconst 234 C (nb 1) dL_towns_233 rfl (by decide) ?_
          refine g_goto 251 C dL_towns_234 (by decide) ?_
          refine g_istore 253 C [(7, .int (nb 1)), (6, .int (nb rr)), (5, .int (nb 1)), (4, .ref a), (3, .int (nb t)), (2, .int (-1)), (1, .ref q1), (0, .ref (ad2 0))] dL_towns_251 rfl (by decide) rfl ?_
          refine g_iload 255 C dL_towns_253 rfl rfl ?_
          refine g_if_eq 258 263 C dL_towns_255 (by decide) rfl (T := none) (E := some ()) (v := ()) (if_neg (by decide)) (fun h => by cases h) (fun _ => ?_)
          refine g_iload 260 C dL_towns_258 rfl rfl ?_
          refine g_goto 277 C dL_towns_260 (by decide) ?_
          refine g_istore 279 C [(7, .int (nb 1)), (6, .int (nb rr)), (5, .int (nb 1)), (4, .ref a), (3, .int (nb t)), (2, .int (-1)), (1, .ref q1), (0, .ref (ad2 0))] dL_towns_277 rfl (by decide) rfl ?_
          refine g_iload 281 C dL_towns_279 rfl rfl ?_
          refine g_if_eq 284 317 C dL_towns_281 (by decide) rfl (T := none) (E := some ()) (v := ()) (if_neg (by decide)) (fun h => by cases h) (fun _ => ?_)
          refine g_iload 286 C dL_towns_284 rfl rfl ?_
          refine g_if_lt 289 317 C dL_towns_286 (by decide) rfl (T := none) (E := some ()) (v := ()) (if_pos (by decide)) (fun h => by cases h) (fun _ => ?_)
          refine g_iload 291 C dL_towns_289 rfl rfl ?_
          refine g_if_ne 294 300 C dL_towns_291 (by decide) rfl (T := some ()) (E := none) (v := ()) (if_neg (by decide)) (fun _ => ?_) (fun h => by cases h)
          refine g_lv (lv2 := [(6, .int (nb rr)), (5, .int (nb 1)), (4, .ref a), (3, .int (nb t)), (2, .int (-1)), (1, .ref q1), (0, .ref (ad2 0))]) [1, 2, 3, 4, 5, 6, 7] rfl ?_
          exact K300
        · skip
          subst hl2
          have ho : go_A w lr rr = true := rk_next (rk_A w) hl1 hr1 (by omega)
          unfold go_A at ho
          rw [decide_eq_true_eq] at ho
          obtain ⟨x1, x2, x3, x4⟩ := hJ3 rr hr1
          obtain ⟨y1, y2, y3, y4⟩ := hJ3 lr hl1
          refine g_if_ge 233 237 C dL_towns_230 (by decide) rfl (T := some ()) (E := none) (v := ()) (if_neg (nb_nneg (by omega))) (fun _ => ?_) (fun h => by cases h)
          refine g_aload_n 238 C dL_towns_237 rfl rfl rfl ?_
          refine g_iload_n 239 C dL_towns_238 rfl rfl rfl ?_
          refine g_iconst 240 C (nb 3) dL_towns_239 rfl (by decide) ?_
          refine lc_townOf 243 C gL_towns_X7_townOf ⟨(Nat.le_of_ble_eq_true rfl), (Nat.le_of_ble_eq_true rfl)⟩ (Nat.le_of_ble_eq_true rfl) (k_t3 hA2 (by omega : lr < 5)) ⟨by dsimp only; omega, by dsimp only; omega⟩ dL_towns_240 rfl ?_
          refine g_aload_n 244 C dL_towns_243 rfl rfl rfl ?_
          refine g_iload 246 C dL_towns_244 rfl rfl ?_
          refine g_iconst 247 C (nb 3) dL_towns_246 rfl (by decide) ?_
          refine lc_townOf 250 C gL_towns_X7_townOf ⟨(Nat.le_of_ble_eq_true rfl), (Nat.le_of_ble_eq_true rfl)⟩ (Nat.le_of_ble_eq_true rfl) (k_t3 hA2 (by omega : rr < 5)) ⟨by dsimp only; omega, by dsimp only; omega⟩ dL_towns_247 rfl ?_
          refine g_isub 251 C dL_towns_250 rfl ?_
          by_cases e1 : w (13 + 4 * lr) = w (13 + 4 * rr)
          · skip
            refine g_top (v := (nb 0)) (by rw [e1, nb_sub (Nat.le_refl _), Nat.sub_self]) ?_
            refine g_istore 253 C [(7, .int (nb 0)), (6, .int (nb rr)), (5, .int (nb 1)), (4, .ref a), (3, .int (nb t)), (2, .int (nb lr)), (1, .ref q1), (0, .ref (ad2 0))] dL_towns_251 rfl (by decide) rfl ?_
            refine g_iload 255 C dL_towns_253 rfl rfl ?_
            refine g_if_eq 258 263 C dL_towns_255 (by decide) rfl (T := some ()) (E := none) (v := ()) (if_pos rfl) (fun _ => ?_) (fun h => by cases h)
            refine g_aload_n 264 C dL_towns_263 rfl rfl rfl ?_
            refine g_iload 266 C dL_towns_264 rfl rfl ?_
            refine g_iconst 267 C (nb 0) dL_towns_266 rfl (by decide) ?_
            refine lc_townOf 270 C gL_towns_X7_townOf ⟨(Nat.le_of_ble_eq_true rfl), (Nat.le_of_ble_eq_true rfl)⟩ (Nat.le_of_ble_eq_true rfl) (k_t0 hA2 (by omega : rr < 5)) ⟨by dsimp only; omega, by dsimp only; omega⟩ dL_towns_267 rfl ?_
            refine g_aload_n 271 C dL_towns_270 rfl rfl rfl ?_
            refine g_iload_n 272 C dL_towns_271 rfl rfl rfl ?_
            refine g_iconst 273 C (nb 0) dL_towns_272 rfl (by decide) ?_
            refine lc_townOf 276 C gL_towns_X7_townOf ⟨(Nat.le_of_ble_eq_true rfl), (Nat.le_of_ble_eq_true rfl)⟩ (Nat.le_of_ble_eq_true rfl) (k_t0 hA2 (by omega : lr < 5)) ⟨by dsimp only; omega, by dsimp only; omega⟩ dL_towns_273 rfl ?_
            refine g_isub 277 C dL_towns_276 rfl ?_
            refine g_top (v := (nb (w (10 + 4 * rr) - w (10 + 4 * lr)))) (nb_sub (by omega)).symm ?_
            refine g_istore 279 C [(7, .int (nb (w (10 + 4 * rr) - w (10 + 4 * lr)))), (6, .int (nb rr)), (5, .int (nb 1)), (4, .ref a), (3, .int (nb t)), (2, .int (nb lr)), (1, .ref q1), (0, .ref (ad2 0))] dL_towns_277 rfl (by decide) rfl ?_
            refine g_iload 281 C dL_towns_279 rfl rfl ?_
            refine g_if_eq 284 317 C dL_towns_281 (by decide) rfl (T := none) (E := some ()) (v := ()) (if_neg (by decide)) (fun h => by cases h) (fun _ => ?_)
            refine g_iload 286 C dL_towns_284 rfl rfl ?_
            refine g_if_lt 289 317 C dL_towns_286 (by decide) rfl (T := none) (E := some ()) (v := ()) (if_pos (nb_0le (by omega))) (fun h => by cases h) (fun _ => ?_)
            refine g_iload 291 C dL_towns_289 rfl rfl ?_
            by_cases e2 : w (10 + 4 * rr) - w (10 + 4 * lr) = 0
            · skip
              refine g_if_ne 294 300 C dL_towns_291 (by decide) rfl (T := none) (E := some ()) (v := ()) (if_pos (by rw [e2]; rfl)) (fun h => by cases h) (fun _ => ?_)
              refine g_iload 296 C dL_towns_294 rfl rfl ?_
              refine g_iload_n 297 C dL_towns_296 rfl rfl rfl ?_
              refine g_icmp_lt 300 317 C dL_towns_297 (by decide) rfl (T := none) (E := some ()) (v := ()) (if_pos (nb_le_t (by omega) (by omega))) (fun h => by cases h) (fun _ => ?_)
              refine g_lv (lv2 := [(6, .int (nb rr)), (5, .int (nb 1)), (4, .ref a), (3, .int (nb t)), (2, .int (nb lr)), (1, .ref q1), (0, .ref (ad2 0))]) [1, 2, 3, 4, 5, 6, 7] rfl ?_
              exact K300
            · skip
              refine g_if_ne 294 300 C dL_towns_291 (by decide) rfl (T := some ()) (E := none) (v := ()) (if_neg (nb_ne (b := 0) e2 (by omega) (by decide))) (fun _ => ?_) (fun h => by cases h)
              refine g_lv (lv2 := [(6, .int (nb rr)), (5, .int (nb 1)), (4, .ref a), (3, .int (nb t)), (2, .int (nb lr)), (1, .ref q1), (0, .ref (ad2 0))]) [1, 2, 3, 4, 5, 6, 7] rfl ?_
              exact K300
          · skip
            refine g_top (v := (nb (w (13 + 4 * lr) - w (13 + 4 * rr)))) (nb_sub (by omega)).symm ?_
            refine g_istore 253 C [(7, .int (nb (w (13 + 4 * lr) - w (13 + 4 * rr)))), (6, .int (nb rr)), (5, .int (nb 1)), (4, .ref a), (3, .int (nb t)), (2, .int (nb lr)), (1, .ref q1), (0, .ref (ad2 0))] dL_towns_251 rfl (by decide) rfl ?_
            refine g_iload 255 C dL_towns_253 rfl rfl ?_
            refine g_if_eq 258 263 C dL_towns_255 (by decide) rfl (T := none) (E := some ()) (v := ()) (if_neg (nb_ne (b := 0) (by omega) (by omega) (by decide))) (fun h => by cases h) (fun _ => ?_)
            refine g_iload 260 C dL_towns_258 rfl rfl ?_
            refine g_goto 277 C dL_towns_260 (by decide) ?_
            refine g_istore 279 C [(7, .int (nb (w (13 + 4 * lr) - w (13 + 4 * rr)))), (6, .int (nb rr)), (5, .int (nb 1)), (4, .ref a), (3, .int (nb t)), (2, .int (nb lr)), (1, .ref q1), (0, .ref (ad2 0))] dL_towns_277 rfl (by decide) rfl ?_
            refine g_iload 281 C dL_towns_279 rfl rfl ?_
            refine g_if_eq 284 317 C dL_towns_281 (by decide) rfl (T := none) (E := some ()) (v := ()) (if_neg (by decide)) (fun h => by cases h) (fun _ => ?_)
            refine g_iload 286 C dL_towns_284 rfl rfl ?_
            refine g_if_lt 289 317 C dL_towns_286 (by decide) rfl (T := none) (E := some ()) (v := ()) (if_pos (nb_0le (by omega))) (fun h => by cases h) (fun _ => ?_)
            refine g_iload 291 C dL_towns_289 rfl rfl ?_
            refine g_if_ne 294 300 C dL_towns_291 (by decide) rfl (T := some ()) (E := none) (v := ()) (if_neg (nb_ne (b := 0) (by omega) (by omega) (by decide))) (fun _ => ?_) (fun h => by cases h)
            refine g_lv (lv2 := [(6, .int (nb rr)), (5, .int (nb 1)), (4, .ref a), (3, .int (nb t)), (2, .int (nb lr)), (1, .ref q1), (0, .ref (ad2 0))]) [1, 2, 3, 4, 5, 6, 7] rfl ?_
            exact K300
      refine g_aload_n 101 C dL_towns_100 rfl rfl rfl ?_
      refine g_iload_n 102 C dL_towns_101 rfl rfl rfl ?_
      refine g_iconst 103 C (nb 3) dL_towns_102 rfl (by decide) ?_
      refine lc_townOf 106 C gL_towns_X7_townOf ⟨(Nat.le_of_ble_eq_true rfl), (Nat.le_of_ble_eq_true rfl)⟩ (Nat.le_of_ble_eq_true rfl) (k_t3 hA2 (by omega : t < 5)) ⟨by dsimp only; omega, by dsimp only; omega⟩ dL_towns_103 rfl ?_
      by_cases e3 : w (13 + 4 * t) = 0
      · skip
        refine g_if_le 109 136 C dL_towns_106 (by decide) rfl (T := some ()) (E := none) (v := ()) (if_neg (by rw [e3]; decide)) (fun _ => ?_) (fun h => by cases h)
        refine g_ldcS 138 C hLL.1.1 dL_towns_136 rfl ?_
        refine ls_con 141 C hJ gL_towns_J4_append_15ec4 ⟨(Nat.le_of_ble_eq_true rfl), (Nat.le_of_ble_eq_true rfl)⟩ (Nat.le_of_ble_eq_true rfl) (k := 8) (by decide) (g := fun _ => 0) hq8 (fun j hj => absurd hj (Nat.not_lt_zero j)) (by show (ly_w w t).1 + 0 ≤ 90; omega) ⟨by dsimp only; omega, by dsimp only; omega⟩ dL_towns_138 rfl (fun b9 κ9 hb9 hq9 => ?_)
        rw [← hb9]
        exact K141 b9 κ9 _ _ (by omega) (by omega) (by unfold ly_v; rw [if_pos e3]; exact k_cat0 hq9)
      · skip
        refine g_if_le 109 136 C dL_towns_106 (by decide) rfl (T := none) (E := some ()) (v := ()) (if_pos (nb_pos (by omega) (by omega))) (fun h => by cases h) (fun _ => ?_)
        refine ls_new 116 C hJ ksL_towns_iJ4 ksL_towns_n1 ksL_towns_n2 ksL_towns_n3 gL_towns_J4_init_da8c8 ksL_towns_n4 ksL_towns_n5 ⟨(Nat.le_of_ble_eq_true rfl), (Nat.le_of_ble_eq_true rfl)⟩ (Nat.le_of_ble_eq_true rfl) ⟨by dsimp only; omega, by dsimp only; omega⟩ dL_towns_109 dL_towns_112 dL_towns_113 rfl (fun e0 => ?_)
        have hr0 : qb_I iJ4 ly_0.1 ly_0.2 := k_nil _
        refine g_aload_n 117 C dL_towns_116 rfl rfl rfl ?_
        refine g_iload_n 118 C dL_towns_117 rfl rfl rfl ?_
        refine g_iconst 119 C (nb 3) dL_towns_118 rfl (by decide) ?_
        refine lc_townOf 122 C gL_towns_X7_townOf ⟨(Nat.le_of_ble_eq_true rfl), (Nat.le_of_ble_eq_true rfl)⟩ (Nat.le_of_ble_eq_true rfl) (k_t3 hA2 (by omega : t < 5)) ⟨by dsimp only; omega, by dsimp only; omega⟩ dL_towns_119 rfl ?_
        refine ls_int 125 C hJ gL_towns_J4_append_bf812 ⟨(Nat.le_of_ble_eq_true rfl), (Nat.le_of_ble_eq_true rfl)⟩ (Nat.le_of_ble_eq_true rfl) hr0 (by decide) (by omega) ⟨by dsimp only; omega, by dsimp only; omega⟩ dL_towns_122 rfl (fun e1 μ1 he1 hr1 => ?_)
        rw [← he1]
        have hr1 : qb_I μ1 (ly_i (w (13 + 4 * t)) ly_0).1 (ly_i (w (13 + 4 * t)) ly_0).2 := hr1
        refine g_ldcS 127 C hLL.2.2.2.2.2 dL_towns_125 rfl ?_
        refine ls_con 130 C hJ gL_towns_J4_append_15ec4 ⟨(Nat.le_of_ble_eq_true rfl), (Nat.le_of_ble_eq_true rfl)⟩ (Nat.le_of_ble_eq_true rfl) (k := 14) (by decide) (g := fun _ => 97) hr1 (fun j hj => ⟨by decide, by rw [show j = 0 from by have : j < 1 := hj; omega]; rfl⟩) (by show 0 + qd_l (w (13 + 4 * t)) + 1 ≤ 90; omega) ⟨by dsimp only; omega, by dsimp only; omega⟩ dL_towns_127 rfl (fun e2 μ2 he2 hr2a => ?_)
        rw [← he2]
        have hr2 : qb_I μ2 (ly_c 97 (ly_i (w (13 + 4 * t)) ly_0)).1 (ly_c 97 (ly_i (w (13 + 4 * t)) ly_0)).2 := k_cat hr2a
        have hl9 : (ly_c 97 (ly_i (w (13 + 4 * t)) ly_0)).1 ≤ 5 := by
          show 0 + qd_l (w (13 + 4 * t)) + 1 ≤ 5
          omega
        refine ls_toS 133 C hJ hB gL_towns_J4_toString_0e30d ⟨(Nat.le_of_ble_eq_true rfl), (Nat.le_of_ble_eq_true rfl)⟩ (Nat.le_of_ble_eq_true rfl) (qk_of hr2) ⟨by dsimp only; omega, by dsimp only; omega⟩ dL_towns_130 rfl (fun a v bt hbt => ?_)
        refine g_goto 138 C dL_towns_133 (by decide) ?_
        refine ls_str2 141 C hJ gL_towns_J4_append_15ec4 ⟨(Nat.le_of_ble_eq_true rfl), (Nat.le_of_ble_eq_true rfl)⟩ (Nat.le_of_ble_eq_true rfl) (qk_of hq8) hbt (by omega) ⟨by dsimp only; omega, by dsimp only; omega⟩ dL_towns_138 rfl (fun b9 κ9 hb9 _ hq9 => ?_)
        rw [← hb9]
        exact K141 b9 κ9 _ _ (by omega) (by omega) (by unfold ly_v; rw [if_neg e3]; exact k_cata (hq9 (by omega) hq8))
  refine L1 (fun ad2 σ2 last g0 cells slots h0 hA2 hQ2 hg h2 h3 => ?_) 5 0 ad σ (-1) (fun _ => 0) _ _ (by omega) rfl hA (cl_Qr σ) (Or.inl ⟨rfl, rfl⟩) (fun _ _ => rfl) (by omega) (by omega)
  · skip
    refine g_aload_n 329 C dL_towns_328 rfl rfl rfl ?_
    refine g_iconst 330 C (nb 0) dL_towns_329 rfl (by decide) ?_
    refine ca_get 331 C 0 (g := g0) (N := 4) rfl (t := 0) (by decide) (by decide) dL_towns_330 rfl ?_
    refine g_top (v := (nb (ga_s w 0))) (by rw [hg 0 (by decide), ts_5]) ?_
    refine g_i2d 332 C dL_towns_331 rfl ?_
    refine g_ldc2d 335 C ksL_towns_cd dL_towns_332 rfl ?_
    refine g_ddiv 336 C (fp_meanN _).1 dL_towns_335 rfl ?_
    refine g_dstore_n 337 C [(3, .double (fp_mean (nb (ga_s w 0)))), (2, .int last), (1, .ref q1), (0, .ref (ad2 0))] dL_towns_336 rfl rfl (by decide) rfl ?_
    refine g_aload_n 338 C dL_towns_337 rfl rfl rfl ?_
    refine g_bipush 340 C (nb 12) dL_towns_338 rfl (by decide) ?_
    refine lc_account 343 C gL_towns_X7_account ⟨(Nat.le_of_ble_eq_true rfl), (Nat.le_of_ble_eq_true rfl)⟩ (Nat.le_of_ble_eq_true rfl) (ce_account hA2 (k := 12) (by decide)) ⟨by dsimp only; omega, by dsimp only; omega⟩ dL_towns_340 rfl ?_
    refine g_top (v := (nb (w 7))) rfl ?_
    have K365 : sg_G p l e { frames := 8, cells := 400, slots := 80000, locals := 240 } s m args below meth cd D (va_A (sl_w Y ad σ []) s.heap.size) 8 cells slots Q 365 [(3, .double (fp_mean (nb (ga_s w 0)))), (2, .int last), (1, .ref q1), (0, .ref (ad2 0))] [.float (fp_share (nb (w 8)) (nb (w 7)))] (sl_w Y ad2 σ2 ([ca_A Y q1 4 g0])) := by
      refine g_fstore 367 C [(5, .float (fp_share (nb (w 8)) (nb (w 7)))), (3, .double (fp_mean (nb (ga_s w 0)))), (2, .int last), (1, .ref q1), (0, .ref (ad2 0))] dL_towns_365 rfl (by decide) rfl ?_
      refine g_aload_n 368 C dL_towns_367 rfl rfl rfl ?_
      refine g_iconst 369 C (nb 3) dL_towns_368 rfl (by decide) ?_
      refine lc_account 372 C gL_towns_X7_account ⟨(Nat.le_of_ble_eq_true rfl), (Nat.le_of_ble_eq_true rfl)⟩ (Nat.le_of_ble_eq_true rfl) (ce_account hA2 (k := 3) (by decide)) ⟨by dsimp only; omega, by dsimp only; omega⟩ dL_towns_369 rfl ?_
      refine g_top (v := (nb (ga_s w 0))) rfl ?_
      refine g_aload_n 373 C dL_towns_372 rfl rfl rfl ?_
      refine g_iconst 374 C (nb 0) dL_towns_373 rfl (by decide) ?_
      refine ca_get 375 C 0 (g := g0) (N := 4) rfl (t := 0) (by decide) (by decide) dL_towns_374 rfl ?_
      refine g_top (v := (nb (ga_s w 0))) (by rw [hg 0 (by decide), ts_5]) ?_
      refine g_icmp_ne 378 416 C dL_towns_375 (by decide) rfl (T := none) (E := some ()) (v := ()) (if_pos rfl) (fun h => by cases h) (fun _ => ?_)
      refine g_aload_n 379 C dL_towns_378 rfl rfl rfl ?_
      refine g_iconst 380 C (nb 4) dL_towns_379 rfl (by decide) ?_
      refine lc_account 383 C gL_towns_X7_account ⟨(Nat.le_of_ble_eq_true rfl), (Nat.le_of_ble_eq_true rfl)⟩ (Nat.le_of_ble_eq_true rfl) (ce_account hA2 (k := 4) (by decide)) ⟨by dsimp only; omega, by dsimp only; omega⟩ dL_towns_380 rfl ?_
      refine g_top (v := (nb (ga_s w 1))) rfl ?_
      refine g_aload_n 384 C dL_towns_383 rfl rfl rfl ?_
      refine g_iconst 385 C (nb 1) dL_towns_384 rfl (by decide) ?_
      refine ca_get 386 C 0 (g := g0) (N := 4) rfl (t := 1) (by decide) (by decide) dL_towns_385 rfl ?_
      refine g_top (v := (nb (ga_s w 1))) (by rw [hg 1 (by decide), ts_5]) ?_
      refine g_icmp_ne 389 416 C dL_towns_386 (by decide) rfl (T := none) (E := some ()) (v := ()) (if_pos rfl) (fun h => by cases h) (fun _ => ?_)
      refine g_aload_n 390 C dL_towns_389 rfl rfl rfl ?_
      refine g_iconst 391 C (nb 5) dL_towns_390 rfl (by decide) ?_
      refine lc_account 394 C gL_towns_X7_account ⟨(Nat.le_of_ble_eq_true rfl), (Nat.le_of_ble_eq_true rfl)⟩ (Nat.le_of_ble_eq_true rfl) (ce_account hA2 (k := 5) (by decide)) ⟨by dsimp only; omega, by dsimp only; omega⟩ dL_towns_391 rfl ?_
      refine g_top (v := (nb (ga_s w 3))) rfl ?_
      refine g_aload_n 395 C dL_towns_394 rfl rfl rfl ?_
      refine g_iconst 396 C (nb 3) dL_towns_395 rfl (by decide) ?_
      refine ca_get 397 C 0 (g := g0) (N := 4) rfl (t := 3) (by decide) (by decide) dL_towns_396 rfl ?_
      refine g_top (v := (nb (ga_s w 3))) (by rw [hg 3 (by decide), ts_5]) ?_
      refine g_icmp_ne 400 416 C dL_towns_397 (by decide) rfl (T := none) (E := some ()) (v := ()) (if_pos rfl) (fun h => by cases h) (fun _ => ?_)
      refine g_aload_n 401 C dL_towns_400 rfl rfl rfl ?_
      refine g_bipush 403 C (nb 6) dL_towns_401 rfl (by decide) ?_
      refine lc_account 406 C gL_towns_X7_account ⟨(Nat.le_of_ble_eq_true rfl), (Nat.le_of_ble_eq_true rfl)⟩ (Nat.le_of_ble_eq_true rfl) (ce_account hA2 (k := 6) (by decide)) ⟨by dsimp only; omega, by dsimp only; omega⟩ dL_towns_403 rfl ?_
      refine g_top (v := (nb (ga_s w 2))) rfl ?_
      refine g_aload_n 407 C dL_towns_406 rfl rfl rfl ?_
      refine g_iconst 408 C (nb 2) dL_towns_407 rfl (by decide) ?_
      refine ca_get 409 C 0 (g := g0) (N := 4) rfl (t := 2) (by decide) (by decide) dL_towns_408 rfl ?_
      refine g_top (v := (nb (ga_s w 2))) (by rw [hg 2 (by decide), ts_5]) ?_
      refine g_icmp_ne 412 416 C dL_towns_409 (by decide) rfl (T := none) (E := some ()) (v := ()) (if_pos rfl) (fun h => by cases h) (fun _ => ?_)
      refine g_iconst 413 C (nb 1) dL_towns_412 rfl (by decide) ?_
      refine g_goto 417 C dL_towns_413 (by decide) ?_
      refine g_istore 419 C [(6, .int (nb 1)), (5, .float (fp_share (nb (w 8)) (nb (w 7)))), (3, .double (fp_mean (nb (ga_s w 0)))), (2, .int last), (1, .ref q1), (0, .ref (ad2 0))] dL_towns_417 rfl (by decide) rfl ?_
      refine g_bipush 421 C (nb 50) dL_towns_419 rfl (by decide) ?_
      refine g_aload_n 422 C dL_towns_421 rfl rfl rfl ?_
      refine g_bipush 424 C (nb 7) dL_towns_422 rfl (by decide) ?_
      refine lc_account 427 C gL_towns_X7_account ⟨(Nat.le_of_ble_eq_true rfl), (Nat.le_of_ble_eq_true rfl)⟩ (Nat.le_of_ble_eq_true rfl) (ce_account hA2 (k := 7) (by decide)) ⟨by dsimp only; omega, by dsimp only; omega⟩ dL_towns_424 rfl ?_
      refine g_top (v := (nb (w 2))) rfl ?_
      refine g_iadd 428 C dL_towns_427 rfl ?_
      refine g_top (v := (nb (50 + w 2))) (nb_add _ _).symm ?_
      refine g_aload_n 429 C dL_towns_428 rfl rfl rfl ?_
      refine g_iconst 430 C (nb 0) dL_towns_429 rfl (by decide) ?_
      refine ca_get 431 C 0 (g := g0) (N := 4) rfl (t := 0) (by decide) (by decide) dL_towns_430 rfl ?_
      refine g_top (v := (nb (ga_s w 0))) (by rw [hg 0 (by decide), ts_5]) ?_
      refine g_isub 432 C dL_towns_431 rfl ?_
      refine g_top (v := (nb (50 + w 2 - ga_s w 0))) (nb_sub (by omega)).symm ?_
      refine g_aload_n 433 C dL_towns_432 rfl rfl rfl ?_
      refine g_bipush 435 C (nb 8) dL_towns_433 rfl (by decide) ?_
      refine lc_account 438 C gL_towns_X7_account ⟨(Nat.le_of_ble_eq_true rfl), (Nat.le_of_ble_eq_true rfl)⟩ (Nat.le_of_ble_eq_true rfl) (ce_account hA2 (k := 8) (by decide)) ⟨by dsimp only; omega, by dsimp only; omega⟩ dL_towns_435 rfl ?_
      refine g_top (v := (nb (w 3))) rfl ?_
      refine g_isub 439 C dL_towns_438 rfl ?_
      refine g_top (v := (nb (50 + w 2 - ga_s w 0 - w 3))) (nb_sub (by omega)).symm ?_
      refine g_aload_n 440 C dL_towns_439 rfl rfl rfl ?_
      refine g_bipush 442 C (nb 9) dL_towns_440 rfl (by decide) ?_
      refine lc_account 445 C gL_towns_X7_account ⟨(Nat.le_of_ble_eq_true rfl), (Nat.le_of_ble_eq_true rfl)⟩ (Nat.le_of_ble_eq_true rfl) (ce_account hA2 (k := 9) (by decide)) ⟨by dsimp only; omega, by dsimp only; omega⟩ dL_towns_442 rfl ?_
      refine g_top (v := (nb (w 4))) rfl ?_
      refine g_isub 446 C dL_towns_445 rfl ?_
      refine g_top (v := (nb (50 + w 2 - ga_s w 0 - w 3 - w 4))) (nb_sub (by omega)).symm ?_
      refine g_top (v := (nb (4 * w 9))) (congrArg nb (by omega)) ?_
      refine g_istore 448 C [(7, .int (nb (4 * w 9))), (6, .int (nb 1)), (5, .float (fp_share (nb (w 8)) (nb (w 7)))), (3, .double (fp_mean (nb (ga_s w 0)))), (2, .int last), (1, .ref q1), (0, .ref (ad2 0))] dL_towns_446 rfl (by decide) rfl ?_
      refine g_iload 450 C dL_towns_448 rfl rfl ?_
      refine g_if_eq 453 539 C dL_towns_450 (by decide) rfl (T := none) (E := some ()) (v := ()) (if_neg (by decide)) (fun h => by cases h) (fun _ => ?_)
      refine g_iload 455 C dL_towns_453 rfl rfl ?_
      refine g_if_lt 458 539 C dL_towns_455 (by decide) rfl (T := none) (E := some ()) (v := ()) (if_pos (nb_0le (by omega))) (fun h => by cases h) (fun _ => ?_)
      refine g_iload 460 C dL_towns_458 rfl rfl ?_
      refine g_iconst 461 C (nb 4) dL_towns_460 rfl (by decide) ?_
      refine g_iremc 462 C dL_towns_461 rfl (by decide) ?_
      refine g_top (v := (nb 0)) ((bx_rem (a := 4 * w 9) (many := 4) (by omega) (by decide)).trans (congrArg nb (by omega))).symm ?_
      refine g_if_ne 465 539 C dL_towns_462 (by decide) rfl (T := none) (E := some ()) (v := ()) (if_pos rfl) (fun h => by cases h) (fun _ => ?_)
      refine g_aload_n 466 C dL_towns_465 rfl rfl rfl ?_
      refine g_bipush 468 C (nb 13) dL_towns_466 rfl (by decide) ?_
      refine lc_account 471 C gL_towns_X7_account ⟨(Nat.le_of_ble_eq_true rfl), (Nat.le_of_ble_eq_true rfl)⟩ (Nat.le_of_ble_eq_true rfl) (ce_account hA2 (k := 13) (by decide)) ⟨by dsimp only; omega, by dsimp only; omega⟩ dL_towns_468 rfl ?_
      refine g_top (v := (nb (w 8))) rfl ?_
      refine g_aload_n 472 C dL_towns_471 rfl rfl rfl ?_
      refine g_bipush 474 C (nb 12) dL_towns_472 rfl (by decide) ?_
      refine lc_account 477 C gL_towns_X7_account ⟨(Nat.le_of_ble_eq_true rfl), (Nat.le_of_ble_eq_true rfl)⟩ (Nat.le_of_ble_eq_true rfl) (ce_account hA2 (k := 12) (by decide)) ⟨by dsimp only; omega, by dsimp only; omega⟩ dL_towns_474 rfl ?_
      refine g_top (v := (nb (w 7))) rfl ?_
      refine g_icmp_gt 480 539 C dL_towns_477 (by decide) rfl (T := none) (E := some ()) (v := ()) (if_pos (nb_le_t (by omega) (by omega))) (fun h => by cases h) (fun _ => ?_)
      refine g_aload_n 481 C dL_towns_480 rfl rfl rfl ?_
      refine g_bipush 483 C (nb 11) dL_towns_481 rfl (by decide) ?_
      refine lc_account 486 C gL_towns_X7_account ⟨(Nat.le_of_ble_eq_true rfl), (Nat.le_of_ble_eq_true rfl)⟩ (Nat.le_of_ble_eq_true rfl) (ce_account hA2 (k := 11) (by decide)) ⟨by dsimp only; omega, by dsimp only; omega⟩ dL_towns_483 rfl ?_
      refine g_top (v := (nb (w 6))) rfl ?_
      refine g_iconst 487 C (nb 2) dL_towns_486 rfl (by decide) ?_
      refine g_iremc 488 C dL_towns_487 rfl (by decide) ?_
      refine g_top (v := (nb 0)) ((bx_rem (a := w 6) (many := 2) (by omega) (by decide)).trans (congrArg nb (by omega))).symm ?_
      refine g_if_ne 491 539 C dL_towns_488 (by decide) rfl (T := none) (E := some ()) (v := ()) (if_pos rfl) (fun h => by cases h) (fun _ => ?_)
      refine g_aload_n 492 C dL_towns_491 rfl rfl rfl ?_
      refine lw_mean 495 C gL_towns_X7_meanSun ⟨(Nat.le_of_ble_eq_true rfl), (Nat.le_of_ble_eq_true rfl)⟩ (Nat.le_of_ble_eq_true rfl) hA2 ⟨by dsimp only; omega, by dsimp only; omega⟩ dL_towns_492 rfl ?_
      refine g_dload_n 496 C dL_towns_495 rfl rfl rfl ?_
      refine g_dcmp 497 C dL_towns_496 rfl ?_
      refine g_if_ne 500 539 C dL_towns_497 (by decide) rfl (T := none) (E := some ()) (v := ()) (if_pos (fp_meanN _).2) (fun h => by cases h) (fun _ => ?_)
      refine g_aload_n 501 C dL_towns_500 rfl rfl rfl ?_
      refine lw_share 504 C gL_towns_X7_paidShare ⟨(Nat.le_of_ble_eq_true rfl), (Nat.le_of_ble_eq_true rfl)⟩ (Nat.le_of_ble_eq_true rfl) hA2 ⟨by dsimp only; omega, by dsimp only; omega⟩ dL_towns_501 rfl ?_
      refine g_fload 506 C dL_towns_504 rfl rfl ?_
      refine g_fcmp 507 C dL_towns_506 rfl ?_
      refine g_if_ne 510 539 C dL_towns_507 (by decide) rfl (T := none) (E := some ()) (v := ()) (if_pos (fp_shareN _ _).2) (fun h => by cases h) (fun _ => ?_)
      refine g_aload_n 511 C dL_towns_510 rfl rfl rfl ?_
      obtain ⟨σ3, e3, f3⟩ := ce_counted hA2
      refine lc_isCounted 514 C gL_towns_X7_isCounted ⟨(Nat.le_of_ble_eq_true rfl), (Nat.le_of_ble_eq_true rfl)⟩ (Nat.le_of_ble_eq_true rfl) e3 ⟨by dsimp only; omega, by dsimp only; omega⟩ dL_towns_511 rfl ?_
      have f4 := mg_f1 (b := kb_TN) f3
      have hA3 := cl_Af hA2 f4
      generalize sg_mg kb_TN σ2 σ3 = σ4 at f4 hA3
      skip
      refine g_if_eq 517 539 C dL_towns_514 (by decide) rfl (T := none) (E := some ()) (v := ()) (if_neg (by decide)) (fun h => by cases h) (fun _ => ?_)
      refine g_aload_n 518 C dL_towns_517 rfl rfl rfl ?_
      refine g_iconst 519 C (nb 5) dL_towns_518 rfl (by decide) ?_
      refine lc_ranked 522 C gL_towns_X7_ranked ⟨(Nat.le_of_ble_eq_true rfl), (Nat.le_of_ble_eq_true rfl)⟩ (Nat.le_of_ble_eq_true rfl) (rk_ranked2 hA3) ⟨by dsimp only; omega, by dsimp only; omega⟩ dL_towns_519 rfl ?_
      refine g_iconst 523 C (-1) dL_towns_522 rfl (by decide) ?_
      refine g_icmp_ne 526 539 C dL_towns_523 (by decide) rfl (T := none) (E := some ()) (v := ()) (if_pos rfl) (fun h => by cases h) (fun _ => ?_)
      refine g_aload_n 527 C dL_towns_526 rfl rfl rfl ?_
      refine g_iconst 528 C (nb 5) dL_towns_527 rfl (by decide) ?_
      refine lw_write5 531 C hJ gL_towns_X7_write ⟨(Nat.le_of_ble_eq_true rfl), (Nat.le_of_ble_eq_true rfl)⟩ (Nat.le_of_ble_eq_true rfl) hA3 ⟨by dsimp only; omega, by dsimp only; omega⟩ dL_towns_528 rfl (fun ad3 σ5 g0' g1 g2 => ?_)
      refine g_iconst 532 C (-1) dL_towns_531 rfl (by decide) ?_
      refine g_icmp_ne 535 539 C dL_towns_532 (by decide) rfl (T := none) (E := some ()) (v := ()) (if_pos rfl) (fun h => by cases h) (fun _ => ?_)
      refine g_iconst 536 C (nb 1) dL_towns_535 rfl (by decide) ?_
      refine g_goto 540 C dL_towns_536 (by decide) ?_
      refine ls_drop (X2 := []) _ (by rw [List.append_nil]) ?_
      refine g_widen 400 80000 (by omega) (by omega) ?_
      exact g_iretX (P := (fun (r : Int32) (u : (Nat → Nat) × sg_S) => r = 1 ∧ u.1 0 = ad 0 ∧ cl_A m0 w c0 u.2 ∧ cl_Q σ u.2)) (w' := (fun u => sl_w Y u.1 u.2 [])) (ad3, σ5) C hr rfl hQ hsz dL_towns_540 ⟨rfl, g0'.trans h0, g1, cl_Qt hQ2 (cl_Qt (cl_Qf f4) g2)⟩ rfl
    by_cases e7 : w 7 = 0
    · skip
      refine g_if_ne 346 350 C dL_towns_343 (by decide) rfl (T := none) (E := some ()) (v := ()) (if_pos (by rw [e7]; rfl)) (fun h => by cases h) (fun _ => ?_)
      refine g_fconst0 347 C dL_towns_346 rfl ?_
      refine g_goto 365 C dL_towns_347 (by decide) ?_
      have ef : fp_share (nb (w 8)) (nb (w 7)) = FP.fconst0 := by unfold fp_share; rw [if_pos (by rw [e7]; rfl)]
      rw [ef] at K365
      exact K365
    · skip
      have e8 : ¬ nb (w 7) = 0 := nb_ne (b := 0) e7 (by omega) (by decide)
      refine g_if_ne 346 350 C dL_towns_343 (by decide) rfl (T := some ()) (E := none) (v := ()) (if_neg e8) (fun _ => ?_) (fun h => by cases h)
      refine g_aload_n 351 C dL_towns_350 rfl rfl rfl ?_
      refine g_bipush 353 C (nb 13) dL_towns_351 rfl (by decide) ?_
      refine lc_account 356 C gL_towns_X7_account ⟨(Nat.le_of_ble_eq_true rfl), (Nat.le_of_ble_eq_true rfl)⟩ (Nat.le_of_ble_eq_true rfl) (ce_account hA2 (k := 13) (by decide)) ⟨by dsimp only; omega, by dsimp only; omega⟩ dL_towns_353 rfl ?_
      refine g_top (v := (nb (w 8))) rfl ?_
      refine g_i2f 357 C dL_towns_356 rfl ?_
      refine g_aload_n 358 C dL_towns_357 rfl rfl rfl ?_
      refine g_bipush 360 C (nb 12) dL_towns_358 rfl (by decide) ?_
      refine lc_account 363 C gL_towns_X7_account ⟨(Nat.le_of_ble_eq_true rfl), (Nat.le_of_ble_eq_true rfl)⟩ (Nat.le_of_ble_eq_true rfl) (ce_account hA2 (k := 12) (by decide)) ⟨by dsimp only; omega, by dsimp only; omega⟩ dL_towns_360 rfl ?_
      refine g_top (v := (nb (w 7))) rfl ?_
      refine g_i2f 364 C dL_towns_363 rfl ?_
      refine g_fdiv 365 C ((fp_shareN (nb (w 8)) (nb (w 7))).1 e8) dL_towns_364 rfl ?_
      have ef : fp_share (nb (w 8)) (nb (w 7)) = FP.fdiv (FP.i2f (nb (w 8))) (FP.i2f (nb (w 7))) := by unfold fp_share; rw [if_neg e8]
      rw [ef] at K365
      exact K365
section SLW2
variable {p : Program} {l : Launch} {e : Env} {R : Room} {s : State} {m : MethodId} {args : Array Value} {below : List Frame} {meth : Method} {c : Code} {D : va_G} {Y : Nat → ClassId} {Z : (Nat → Prop) → State → Heap → Prop} {A : Nat → Prop} {nL : Nat} {cells slots : Nat} {Q : State → Prop} {cc : ByteArray} {own : String} {Ts : List Cond} {pc : Nat} {lv : List (Nat × Value)} {st : List Value} {X : va_W} {ad b : Nat → Nat} {σ κ : sg_S} {index : Nat} {jK jV jT : Nat → Nat} {f : Nat → Nat} {n0 : Nat} {m0 c0 : Nat} {w : Nat → Nat}
theorem lk_towns (n : Nat) (C : sg_C p R s m args meth c cc nL own Ts D Y Z A) (hJ : sg_ZJ Z jK jV jT) (hB : sg_Zb Z) (hL : sg_ZL Z jK) (hA : cl_A m0 w c0 σ) (hm : m0 ≤ 31) (hG : GoodIn Ts (va_wsS own index yL_towns wsL_towns)) (hR : 9 ≤ R.frames ∧ 267 ≤ R.locals) (hroom : (st.map fun v => v.category).sum ≤ 8) (hcs : cells + 400 ≤ R.cells ∧ slots + 80000 ≤ R.slots) (hdg : decode cc pc = .ok (.invokestatic index, 3)) (hn : pc + 3 = n) (kk : ∀ (ad2 : Nat → Nat) (σ2 : sg_S), ad2 0 = ad 0 → cl_A m0 w c0 σ2 → cl_Q σ σ2 → sg_G p l e R s m args below meth c D A nL (cells + 400) (slots + 80000) Q n lv (.int 1 :: st) (sl_w Y ad2 σ2 X)) : sg_G p l e R s m args below meth c D A nL cells slots Q pc lv (.ref (ad 0) :: st) (sl_w Y ad σ X) := by
  refine g_XSi n C (As := [.ref (ad 0)]) (st := st) (n0 := 1) (k_towns l C.2.2.2.2.2.2.2.1 hJ hB hL hA hm) hG ⟨by decide +kernel, by decide +kernel, rfl⟩ rfl hR (sl_cutL Y ad σ [] X (fun u : (Nat → Nat) × sg_S => u.1) (fun u => u.2) (fun _ => [])) rfl hroom hcs hdg hn rfl (fun r u hu => ?_)
  obtain ⟨rfl, h0, h1, h2⟩ := hu
  exact kk u.1 u.2 h0 h1 h2
end SLW2
