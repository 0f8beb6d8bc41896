/-! THE LAW: the ministry as a text -/
theorem ksL_told_iJ4 : ∀ w ∈ u_ws RJ4 TJ4 4, w ∈ wsL_told := by decide +kernel
theorem ksL_told_n1 : Cond.classLink RL 67 RJ4 ∈ wsL_told := by decide +kernel
theorem ksL_told_n2 : Cond.instantiable RJ4 4 ∈ wsL_told := by decide +kernel
theorem ksL_told_n3 : Cond.initialized RJ4 ∈ wsL_told := by decide +kernel
theorem ksL_told_n4 : Cond.methodLink RL 69 yJ4_init_da8c8 ∈ wsL_told := by decide +kernel
theorem ksL_told_n5 : Cond.instanceMethod yJ4_init_da8c8 ∈ wsL_told := by decide +kernel
theorem k_sw (S J X : va_W) : (S ++ (J ++ X)).Perm (J ++ S ++ X) := by
  rw [List.append_assoc]
  exact List.perm_append_comm_assoc S J X
theorem cl_wr {m c : Nat} {w : Nat → Nat} {σ σ3 : sg_S} (h : cl_A m w c σ) (hx : ∀ p k, p < 177 → σ3 p k = σ p k) (hl : cl_l σ3) : cl_A m w c σ3 := by
  obtain ⟨a, b, ⟨s, d⟩, _, e⟩ := h
  exact ⟨nb_Rx a b.2.1 (fun _ _ => rfl) (fun p k hp _ _ => (hx (1 + p) k (by omega)).symm), b, ⟨s, cl_hx d (fun p k _ h2 => hx p k (by omega))⟩, hl, (hx 161 3 (by decide)).trans e⟩
theorem k_qb {κ κ2 : sg_S} {n : Nat} {f : Nat → Nat} (h : qb_I κ n f) (hx : ∀ p k, p < 2 → κ2 p k = κ p k) : qb_I κ2 n f := by
  obtain ⟨r, ⟨q1, q2, q3, q4⟩, q5, q6, q7⟩ := h
  refine ⟨r, ⟨q1, (hx 0 0 (by decide)).trans q2, (hx 0 1 (by decide)).trans q3, fun i hi => ?_⟩, q5, (hx 0 3 (by decide)).trans q6, fun i hi => ?_⟩
  · rw [hx 1 i (by decide)]
    exact q4 i hi
  · rw [hx 1 i (by decide)]
    exact q7 i hi
def ly_s (a s : Nat × (Nat → Nat)) : Nat × (Nat → Nat) := (s.1 + a.1, ly_cat s.2 s.1 a.2)
/-- the text of a ministry: its accounts, its towns, its credits -/
def lt_a (w : Nat → Nat) : Nat → Nat × (Nat → Nat)
  | 0 => ly_0
  | k + 1 => ly_c 44 (ly_i (ce_acc w 0 k) (lt_a w k))
def lt_1 (w : Nat → Nat) (t u : Nat) : Nat := if gf_far (gw_a w) t u = 1 then 1 else 0
def lt_f (w : Nat → Nat) (t : Nat) (s : Nat × (Nat → Nat)) : Nat → Nat × (Nat → Nat)
  | 0 => s
  | u + 1 => ly_i (lt_1 w t u) (lt_f w t s u)
def lt_t (w : Nat → Nat) : Nat → Nat × (Nat → Nat)
  | 0 => lt_a w 14
  | t + 1 => lt_f w t (ly_c 47 (ly_s (ly_v w t) (lt_t w t))) 5
def lt_w (w : Nat → Nat) : Nat × (Nat → Nat) := ly_s (lz_s w (w 1)) (lt_t w 5)
theorem lt_aB (w : Nat → Nat) : ∀ k, (lt_a w k).1 ≤ 5 * k := by
  intro k
  induction k with
  | zero => exact Nat.le_refl 0
  | succ k ih =>
    show (lt_a w k).1 + qd_l (ce_acc w 0 k) + 1 ≤ _
    have := qd_l4 (ce_acc w 0 k)
    omega
theorem lt_1B (w : Nat → Nat) (t u : Nat) : lt_1 w t u < 10 := by
  unfold lt_1
  split <;> omega
theorem lt_fB (w : Nat → Nat) (t : Nat) (s : Nat × (Nat → Nat)) : ∀ u, (lt_f w t s u).1 ≤ s.1 + u := by
  intro u
  induction u with
  | zero => exact Nat.le_refl _
  | succ u ih =>
    show (lt_f w t s u).1 + qd_l (lt_1 w t u) ≤ _
    have := qd_l1 (lt_1B w t u)
    omega
theorem ly_vB {w : Nat → Nat} {k t : Nat} (hJ : gs_J w k) (ht : t < 5) : (ly_v w t).1 ≤ 25 := by
  obtain ⟨b1, b2, b3, b4⟩ := hJ.2.2.1 t ht
  have d0 := qd_l1 (v := t) (by omega)
  have d1 := qd_l2 (v := w (10 + 4 * t)) (by omega)
  have d2 := qd_l2 (v := w (11 + 4 * t)) (by omega)
  have d3 := qd_l1 (v := w (12 + 4 * t)) (by omega)
  have d4 := qd_l4 (w (13 + 4 * t))
  have e : (ly_w w t).1 = 0 + qd_l t + 1 + qd_l (w (10 + 4 * t)) + 1 + qd_l (w (11 + 4 * t)) + 1 + qd_l (w (12 + 4 * t)) + 1 := rfl
  unfold ly_v
  split
  · omega
  · show (ly_w w t).1 + qd_l (w (13 + 4 * t)) + 1 ≤ 25
    omega
theorem lt_tB {w : Nat → Nat} {k : Nat} (hJ : gs_J w k) : ∀ t, t ≤ 5 → (lt_t w t).1 ≤ 70 + 31 * t := by
  intro t
  induction t with
  | zero => exact fun _ => lt_aB w 14
  | succ t ih =>
    intro h
    have h1 := lt_fB w t (ly_c 47 (ly_s (ly_v w t) (lt_t w t))) 5
    have h2 : (ly_c 47 (ly_s (ly_v w t) (lt_t w t))).1 = (lt_t w t).1 + (ly_v w t).1 + 1 := rfl
    have h3 := ih (by omega)
    have h4 := ly_vB hJ (t := t) (by omega)
    show (lt_f w t (ly_c 47 (ly_s (ly_v w t) (lt_t w t))) 5).1 ≤ _
    omega
theorem k_acc {m : Nat} {w : Nat → Nat} (hI : gi_I m w) (hm : m ≤ 31) {k : Nat} (hk : k < 14) : ce_acc w 0 k < 10000 := by
  obtain ⟨⟨h0, g1, g2, g3, g4, g5, g6, g7, g8, g9, g10⟩, j1, j2, j3, j4, j5, j6⟩ := hI
  have t0 := j3 0 (by decide)
  have t1 := j3 1 (by decide)
  have t2 := j3 2 (by decide)
  have t3 := j3 3 (by decide)
  have t4 := j3 4 (by decide)
  have cB : ∀ p : Nat → Bool, gf_c p ≤ 5 := fun p => by
    unfold gf_c
    cases p 0 <;> cases p 1 <;> cases p 2 <;> cases p 3 <;> cases p 4 <;> decide
  have c0 : gt_n w ≤ 25 := by
    unfold gt_n gt_c
    have c0 := cB (gw_a w 0)
    have c1 := cB (gw_a w 1)
    have c2 := cB (gw_a w 2)
    have c3 := cB (gw_a w 3)
    have c4 := cB (gw_a w 4)
    omega
  have a0 : ga_s w 0 ≤ 300 := by
    show w (10 + 4 * 0) + w (10 + 4 * 1) + w (10 + 4 * 2) + w (10 + 4 * 3) + w (10 + 4 * 4) ≤ 300
    omega
  have a1 : ga_s w 1 ≤ 300 := by
    show w (11 + 4 * 0) + w (11 + 4 * 1) + w (11 + 4 * 2) + w (11 + 4 * 3) + w (11 + 4 * 4) ≤ 300
    omega
  have a2 : ga_s w 2 ≤ 45 := by
    show w (12 + 4 * 0) + w (12 + 4 * 1) + w (12 + 4 * 2) + w (12 + 4 * 3) + w (12 + 4 * 4) ≤ 45
    omega
  have a3 : ga_s w 3 ≤ 800 := by
    show w (13 + 4 * 0) + w (13 + 4 * 1) + w (13 + 4 * 2) + w (13 + 4 * 3) + w (13 + 4 * 4) ≤ 800
    omega
  rcases ce_lt16 (k := k) (by omega) with rfl | rfl | rfl | rfl | rfl | rfl | rfl | rfl | rfl | rfl | rfl | rfl | rfl | rfl | rfl | rfl
  · show w 0 < 10000
    omega
  · show w 1 < 10000
    omega
  · show gt_n w / 2 < 10000
    omega
  · show ga_s w 0 < 10000
    omega
  · show ga_s w 1 < 10000
    omega
  · show ga_s w 3 < 10000
    omega
  · show ga_s w 2 < 10000
    omega
  · show w 2 < 10000
    omega
  · show w 3 < 10000
    omega
  · show w 4 < 10000
    omega
  · show w 5 < 10000
    omega
  · show w 6 < 10000
    omega
  · show w 7 < 10000
    omega
  · show w 8 < 10000
    omega
  · omega
  · omega
theorem k_ac0 {w : Nat → Nat} {c k : Nat} (hk : k < 14) : ce_acc w c k = ce_acc w 0 k := by
  unfold ce_acc
  have h : ¬ k = 15 := by omega
  rw [if_neg h, if_neg h]
section SLM4
variable {p : Program} {l : Launch} {e : Env} {R : Room} {s : State} {m : MethodId} {args : Array Value} {below : List Frame} {meth : Method} {c : Code} {D : va_G} {Y : Nat → ClassId} {Z : (Nat → Prop) → State → Heap → Prop} {A : Nat → Prop} {nL : Nat} {cells slots : Nat} {Q : State → Prop} {cc : ByteArray} {own : String} {Ts : List Cond} {pc : Nat} {lv : List (Nat × Value)} {st : List Value} {X : va_W} {ad b : Nat → Nat} {σ κ : sg_S} {index : Nat} {jK jV jT : Nat → Nat} {f : Nat → Nat} {n0 : Nat} {m0 c0 : Nat} {w : Nat → Nat}
theorem lw_write (n : Nat) (C : sg_C p R s m args meth c cc nL own Ts D Y Z A) (hJ : sg_ZJ Z jK jV jT) (hG : GoodIn Ts (wsV own index RX7 yX7_write wsX7_write)) (hR : 7 ≤ R.frames ∧ 156 ≤ R.locals) (hroom : (st.map fun v => v.category).sum ≤ 8) (hA : cl_A m0 w c0 σ) {t : Nat} (ht : t < 5) (hcs : cells + 11 ≤ R.cells ∧ slots + 2200 ≤ R.slots) (hdg : decode cc pc = .ok (.invokevirtual index, 3)) (hn : pc + 3 = n) (kk : ∀ (ad2 : Nat → Nat) (σ3 : sg_S), ad2 0 = ad 0 → cl_A m0 w c0 σ3 → (∀ p k, p < 177 → σ3 p k = σ p k) → qb_I (sg_e1 177 σ3) (ly_v w t).1 (ly_v w t).2 → (ly_v w t).1 ≤ 25 → sg_G p l e R s m args below meth c D A nL (cells + 11) (slots + 2200) Q n lv (.int (nb (ly_v w t).1) :: st) (sl_w Y ad2 σ3 X)) : sg_G p l e R s m args below meth c D A nL cells slots Q pc lv (.int (nb t) :: .ref (ad 0) :: st) (sl_w Y ad σ X) := by
  obtain ⟨σ2, e7, h88, hq, hx⟩ := ce_write hA ht
  refine lc_write n C hJ hG hR hroom e7 hcs hdg hn (fun ad2 σ3 h0 h1 h2 h3 => ?_)
  have hs : ∀ p k, p < 177 → σ3 p k = σ p k := fun p k hp => by
    by_cases c : p ≤ 13
    · exact (h1 p k hp c).trans (hx p k hp)
    · exact h2 p k (by omega) hp
  have hq3 : qb_I (sg_e1 177 σ3) (ly_v w t).1 (ly_v w t).2 := k_qb hq (fun p k hp => h3 p k hp)
  exact kk ad2 σ3 h0 (cl_wr hA hs ⟨_, _, h88, hq3⟩) hs hq3 (ly_vB hA.2.1.2 ht)
theorem lw_lines (n : Nat) (C : sg_C p R s m args meth c cc nL own Ts D Y Z A) (hJ : sg_ZJ Z jK jV jT) (hG : GoodIn Ts (wsV own index RX7 yX7_writeCredits wsX7_writeCredits)) (hR : 7 ≤ R.frames ∧ 156 ≤ R.locals) (hroom : (st.map fun v => v.category).sum ≤ 8) (hA : cl_A m0 w c0 σ) (hm : m0 < 9900) (hcs : cells + 54 ≤ R.cells ∧ slots + 10800 ≤ R.slots) (hdg : decode cc pc = .ok (.invokevirtual index, 3)) (hn : pc + 3 = n) (kk : ∀ (ad2 : Nat → Nat) (σ3 : sg_S), ad2 0 = ad 0 → cl_A m0 w c0 σ3 → (∀ p k, p < 177 → σ3 p k = σ p k) → qb_I (sg_e1 177 σ3) (lz_s w (w 1)).1 (lz_s w (w 1)).2 → (lz_s w (w 1)).1 ≤ 88 → sg_G p l e R s m args below meth c D A nL (cells + 54) (slots + 10800) Q n lv (.int (nb (lz_s w (w 1)).1) :: st) (sl_w Y ad2 σ3 X)) : sg_G p l e R s m args below meth c D A nL cells slots Q pc lv (.ref (ad 0) :: st) (sl_w Y ad σ X) := by
  obtain ⟨σ2, e7, h88, hq, hx⟩ := ce_lines hA hm
  refine lc_writeCredits n C hJ hG hR hroom e7 hcs hdg hn (fun ad2 σ3 h0 h1 h2 h3 => ?_)
  have hs : ∀ p k, p < 177 → σ3 p k = σ p k := fun p k hp => by
    by_cases c : p ≤ 13
    · exact (h1 p k hp c).trans (hx p k hp)
    · exact h2 p k (by omega) hp
  have hq3 : qb_I (sg_e1 177 σ3) (lz_s w (w 1)).1 (lz_s w (w 1)).2 := k_qb hq (fun p k hp => h3 p k hp)
  exact kk ad2 σ3 h0 (cl_wr hA hs ⟨_, _, h88, hq3⟩) hs hq3 h88
/-- a text of the world put behind, and dropped -/
theorem ls_str2 (n : Nat) (C : sg_C p R s m args meth c cc nL own Ts D Y Z A) (hJ : sg_ZJ Z jK jV jT) (hG : GoodIn Ts (wsV own index RJ4 yJ4_append_15ec4 wsJ4_append_15ec4)) (hR : 6 ≤ R.frames ∧ 134 ≤ R.locals) (hroom : (st.map fun v => v.category).sum ≤ 8) {a v w0 : Nat} {h1 z1 : Int32} {g : Nat → Nat} {bt : Nat → Int32} (h : qk_I κ n0 f) (hb : ∀ j, j < w0 → g j ≤ 127 ∧ bt j = nb (g j)) (h440 : n0 + w0 ≤ 440) (hcs : cells + 1 ≤ R.cells ∧ slots + 900 ≤ R.slots) (hdg : decode cc pc = .ok (.invokevirtual index, 3)) (hn : pc + 3 = n) (kk : ∀ (b2 : Nat → Nat) (κ2 : sg_S), b2 0 = b 0 → qk_I κ2 (n0 + w0) (ly_cat f n0 g) → (n0 + w0 ≤ 90 → qb_I κ n0 f → qb_I κ2 (n0 + w0) (ly_cat f n0 g)) → sg_G p l e R s m args below meth c D A nL (cells + 1) (slots + 900) Q n lv (.ref (b 0) :: st) (sl_w Y ad σ (ww_J4 Y b2 κ2 ++ X))) : sg_G p l e R s m args below meth c D A nL cells slots Q pc lv (.ref a :: .ref (b 0) :: st) (sl_w Y ad σ (ww_S Y a v h1 z1 w0 bt ++ (ww_J4 Y b κ ++ X))) :=
  ls_perm (k_sw _ _ _) (ls_str n C hJ hG hR hroom h hb h440 hcs hdg hn (fun b2 κ2 e1 e2 e3 => ls_drop (ww_S Y a v h1 z1 w0 bt) (k_sw _ _ _).symm (kk b2 κ2 e1 e2 e3)))
end SLM4
set_option maxHeartbeats 4000000 in
set_option maxRecDepth 100000 in
theorem k_told (l : Launch) {D : va_G} {Y : Nat → ClassId} {Z : (Nat → Prop) → State → Heap → Prop} (hZ : sg_Zok Z) {jK jV jT : Nat → Nat} (hJ : sg_ZJ Z jK jV jT) (hB : sg_Zb Z) {ad : Nat → Nat} {σ : sg_S} {m0 c0 : Nat} {w : Nat → Nat} (hA : cl_A m0 w c0 σ) (hm : m0 ≤ 31) : sg_XR l yL_told wsL_told 8 240 420 122900 D Y Z [.ref (ad 0)] (sl_w Y ad σ []) (fun (u : (Nat → Nat) × sg_S × Nat × Nat × (Nat → Int32)) => u.1 0 = ad 0 ∧ cl_A m0 w c0 u.2.1 ∧ (∀ p k, p < 177 → u.2.1 p k = σ p k) ∧ ∀ j, j < (lt_w w).1 → (lt_w w).2 j ≤ 127 ∧ u.2.2.2.2 j = nb ((lt_w w).2 j)) (fun u => u.2.2.1) (fun u => sl_w Y u.1 u.2.1 (ww_S Y u.2.2.1 u.2.2.2.1 0 0 (lt_w w).1 u.2.2.2.2 ++ [])) := by
  intro sz
  refine sg_enterX (own := RL) (maxL := 4) (ret := (some (.object "java/lang/String"))) (cc := cL_told) (by decide +kernel) rfl rfl (Nat.le_of_ble_eq_true rfl) hZ ?_
  intro p e s m args below meth c C hr hin Q hQ hsz
  have L1 : (∀ (b : Nat → Nat) (κ : sg_S) (cells slots : Nat), cells ≤ 30 → slots ≤ 25220 → qk_I κ (lt_a w 14).1 (lt_a w 14).2 → sg_G p l e { frames := 8, cells := 420, slots := 122900, locals := 240 } s m args below meth c D (va_A (sl_w Y ad σ []) s.heap.size) 4 cells slots Q 37 [(2, .int (nb 14)), (1, .ref (b 0)), (0, .ref (ad 0))] [] (sl_w Y ad σ (ww_J4 Y b κ ++ []))) → ∀ (d k : Nat) (b : Nat → Nat) (κ : sg_S) (cells slots : Nat), k + d = 14 → cells ≤ 2 + 2 * k → slots ≤ 20 + 1800 * k → qk_I κ (lt_a w k).1 (lt_a w k).2 → sg_G p l e { frames := 8, cells := 420, slots := 122900, locals := 240 } s m args below meth c D (va_A (sl_w Y ad σ []) s.heap.size) 4 cells slots Q 10 [(2, .int (nb k)), (1, .ref (b 0)), (0, .ref (ad 0))] [] (sl_w Y ad σ (ww_J4 Y b κ ++ [])) := by
    intro hend d
    induction d with
    | zero =>
      intro k b κ cells slots h1 h2 h3 hq
      refine g_iload_n 11 C dL_told_10 rfl rfl rfl ?_
      refine g_bipush 13 C (nb 14) dL_told_11 rfl (by decide) ?_
      refine g_icmp_ge 16 37 C dL_told_13 (by decide) rfl (T := some ()) (E := none) (v := ()) (if_neg (nb_lt_f (by omega) (by omega))) (fun _ => ?_) (fun h => by cases h)
      have hk : k = 14 := by omega
      subst hk
      exact hend b κ cells slots (by omega) (by omega) hq
    | succ d ih =>
      intro k b κ cells slots h1 h2 h3 hq
      refine g_iload_n 11 C dL_told_10 rfl rfl rfl ?_
      refine g_bipush 13 C (nb 14) dL_told_11 rfl (by decide) ?_
      refine g_icmp_ge 16 37 C dL_told_13 (by decide) rfl (T := none) (E := some ()) (v := ()) (if_pos (nb_lt_t (by omega) (by omega))) (fun h => by cases h) (fun _ => ?_)
      refine g_aload_n 17 C dL_told_16 rfl rfl rfl ?_
      refine g_aload_n 18 C dL_told_17 rfl rfl rfl ?_
      refine g_iload_n 19 C dL_told_18 rfl rfl rfl ?_
      refine lc_account 22 C gL_told_X7_account ⟨(Nat.le_of_ble_eq_true rfl), (Nat.le_of_ble_eq_true rfl)⟩ (Nat.le_of_ble_eq_true rfl) (ce_account hA (k := k) (by omega)) ⟨by dsimp only; omega, by dsimp only; omega⟩ dL_told_19 rfl ?_
      refine g_top (v := (nb (ce_acc w 0 k))) (by rw [k_ac0 (c := c0) (by omega)]) ?_
      refine ls_intK 25 C hJ gL_told_J4_append_bf812 ⟨(Nat.le_of_ble_eq_true rfl), (Nat.le_of_ble_eq_true rfl)⟩ (Nat.le_of_ble_eq_true rfl) hq (by have := lt_aB w k; omega) (k_acc hA.2.1 hm (by omega)) ⟨by dsimp only; omega, by dsimp only; omega⟩ dL_told_22 rfl (fun b2 κ2 hb2 hq2 => ?_)
      rw [← hb2]
      refine g_bipush 27 C (nb 44) dL_told_25 rfl (by decide) ?_
      refine ls_chrK 30 C hJ gL_told_J4_append_cf468 ⟨(Nat.le_of_ble_eq_true rfl), (Nat.le_of_ble_eq_true rfl)⟩ (Nat.le_of_ble_eq_true rfl) hq2 (by have := lt_aB w k; have := qd_l4 (ce_acc w 0 k); omega) (by decide) ⟨by dsimp only; omega, by dsimp only; omega⟩ dL_told_27 rfl (fun b3 κ3 hb3 hq3 => ?_)
      rw [← hb3]
      refine g_pop 31 C dL_told_30 rfl rfl ?_
      refine g_iinc 34 C 0 (nb (k + 1)) [(2, .int (nb (k + 1))), (1, .ref (b3 0)), (0, .ref (ad 0))] dL_told_31 rfl rfl (nb_succ k) (by decide) rfl ?_
      refine g_goto 10 C dL_told_34 (by decide) ?_
      exact ih (k + 1) b3 κ3 _ _ (by omega) (by omega) (by omega) hq3
  have L3 : ∀ (ad2 : Nat → Nat) (σ2 : sg_S) (t c1 s1 : Nat) (s0 : Nat × (Nat → Nat)), t < 5 → cl_A m0 w c0 σ2 → s0.1 ≤ 400 → c1 + 5 ≤ 420 → s1 + 4500 ≤ 122900 → (∀ (b : Nat → Nat) (κ : sg_S) (cells slots : Nat), cells ≤ c1 + 5 → slots ≤ s1 + 4500 → qk_I κ (lt_f w t s0 5).1 (lt_f w t s0 5).2 → sg_G p l e { frames := 8, cells := 420, slots := 122900, locals := 240 } s m args below meth c D (va_A (sl_w Y ad σ []) s.heap.size) 4 cells slots Q 96 [(3, .int (nb 5)), (2, .int (nb t)), (1, .ref (b 0)), (0, .ref (ad2 0))] [] (sl_w Y ad2 σ2 (ww_J4 Y b κ ++ []))) → ∀ (d u : Nat) (b : Nat → Nat) (κ : sg_S) (cells slots : Nat), u + d = 5 → cells ≤ c1 + u → slots ≤ s1 + 900 * u → qk_I κ (lt_f w t s0 u).1 (lt_f w t s0 u).2 → sg_G p l e { frames := 8, cells := 420, slots := 122900, locals := 240 } s m args below meth c D (va_A (sl_w Y ad σ []) s.heap.size) 4 cells slots Q 65 [(3, .int (nb u)), (2, .int (nb t)), (1, .ref (b 0)), (0, .ref (ad2 0))] [] (sl_w Y ad2 σ2 (ww_J4 Y b κ ++ [])) := by
    intro ad2 σ2 t c1 s1 s0 ht hA2 hs0 hc1 hs1 hend d
    induction d with
    | zero =>
      intro u b κ cells slots h1 h2 h3 hq
      refine g_iload_n 66 C dL_told_65 rfl rfl rfl ?_
      refine g_iconst 67 C (nb 5) dL_told_66 rfl (by decide) ?_
      refine g_icmp_ge 70 96 C dL_told_67 (by decide) rfl (T := some ()) (E := none) (v := ()) (if_neg (nb_lt_f (by omega) (by omega))) (fun _ => ?_) (fun h => by cases h)
      have hu : u = 5 := by omega
      subst hu
      exact hend b κ cells slots (by omega) (by omega) hq
    | succ d ih =>
      intro u b κ cells slots h1 h2 h3 hq
      refine g_iload_n 66 C dL_told_65 rfl rfl rfl ?_
      refine g_iconst 67 C (nb 5) dL_told_66 rfl (by decide) ?_
      refine g_icmp_ge 70 96 C dL_told_67 (by decide) rfl (T := none) (E := some ()) (v := ()) (if_pos (nb_lt_t (by omega) (by omega))) (fun h => by cases h) (fun _ => ?_)
      refine g_aload_n 71 C dL_told_70 rfl rfl rfl ?_
      refine g_aload_n 72 C dL_told_71 rfl rfl rfl ?_
      refine g_iload_n 73 C dL_told_72 rfl rfl rfl ?_
      refine g_iload_n 74 C dL_told_73 rfl rfl rfl ?_
      refine lc_far 77 C gL_told_X7_far ⟨(Nat.le_of_ble_eq_true rfl), (Nat.le_of_ble_eq_true rfl)⟩ (Nat.le_of_ble_eq_true rfl) (ce_far hA2 ht (by omega : u < 5)) ⟨by dsimp only; omega, by dsimp only; omega⟩ dL_told_74 rfl ?_
      refine g_iconst 78 C (nb 1) dL_told_77 rfl (by decide) ?_
      have K86 : sg_G p l e { frames := 8, cells := 420, slots := 122900, locals := 240 } s m args below meth c D (va_A (sl_w Y ad σ []) s.heap.size) 4 cells slots Q 86 [(3, .int (nb u)), (2, .int (nb t)), (1, .ref (b 0)), (0, .ref (ad2 0))] [.int (nb (lt_1 w t u)), .ref (b 0)] (sl_w Y ad2 σ2 (ww_J4 Y b κ ++ [])) := by
        refine ls_intK 89 C hJ gL_told_J4_append_bf812 ⟨(Nat.le_of_ble_eq_true rfl), (Nat.le_of_ble_eq_true rfl)⟩ (Nat.le_of_ble_eq_true rfl) hq (by have := lt_fB w t s0 u; omega) (by have := lt_1B w t u; omega) ⟨by dsimp only; omega, by dsimp only; omega⟩ dL_told_86 rfl (fun b2 κ2 hb2 hq2 => ?_)
        rw [← hb2]
        refine g_pop 90 C dL_told_89 rfl rfl ?_
        refine g_iinc 93 C 0 (nb (u + 1)) [(3, .int (nb (u + 1))), (2, .int (nb t)), (1, .ref (b2 0)), (0, .ref (ad2 0))] dL_told_90 rfl rfl (nb_succ u) (by decide) rfl ?_
        refine g_goto 65 C dL_told_93 (by decide) ?_
        exact ih (u + 1) b2 κ2 _ _ (by omega) (by omega) (by omega) hq2
      by_cases hf : gf_far (gw_a w) t u = 1
      · skip
        refine g_icmp_ne 81 85 C dL_told_78 (by decide) rfl (T := none) (E := some ()) (v := ()) (if_pos hf) (fun h => by cases h) (fun _ => ?_)
        refine g_iconst 82 C (nb 1) dL_told_81 rfl (by decide) ?_
        refine g_goto 86 C dL_told_82 (by decide) ?_
        refine g_top (v := (nb (lt_1 w t u))) (by unfold lt_1; rw [if_pos hf]) ?_
        exact K86
      · skip
        refine g_icmp_ne 81 85 C dL_told_78 (by decide) rfl (T := some ()) (E := none) (v := ()) (if_neg hf) (fun _ => ?_) (fun h => by cases h)
        refine g_iconst 86 C (nb 0) dL_told_85 rfl (by decide) ?_
        refine g_top (v := (nb (lt_1 w t u))) (by unfold lt_1; rw [if_neg hf]) ?_
        exact K86
  have L2 : (∀ (ad2 : Nat → Nat) (σ2 : sg_S) (b : Nat → Nat) (κ : sg_S) (cells slots : Nat), ad2 0 = ad 0 → cl_A m0 w c0 σ2 → (∀ p k, p < 177 → σ2 p k = σ p k) → cells ≤ 265 → slots ≤ 93085 → qk_I κ (lt_t w 5).1 (lt_t w 5).2 → sg_G p l e { frames := 8, cells := 420, slots := 122900, locals := 240 } s m args below meth c D (va_A (sl_w Y ad σ []) s.heap.size) 4 cells slots Q 102 [(2, .int (nb 5)), (1, .ref (b 0)), (0, .ref (ad2 0))] [] (sl_w Y ad2 σ2 (ww_J4 Y b κ ++ []))) → ∀ (d t : Nat) (ad2 : Nat → Nat) (σ2 : sg_S) (b : Nat → Nat) (κ : sg_S) (cells slots : Nat), t + d = 5 → ad2 0 = ad 0 → cl_A m0 w c0 σ2 → (∀ p k, p < 177 → σ2 p k = σ p k) → cells ≤ 30 + 47 * t → slots ≤ 25220 + 13573 * t → qk_I κ (lt_t w t).1 (lt_t w t).2 → sg_G p l e { frames := 8, cells := 420, slots := 122900, locals := 240 } s m args below meth c D (va_A (sl_w Y ad σ []) s.heap.size) 4 cells slots Q 39 [(2, .int (nb t)), (1, .ref (b 0)), (0, .ref (ad2 0))] [] (sl_w Y ad2 σ2 (ww_J4 Y b κ ++ [])) := by
    intro hend d
    induction d with
    | zero =>
      intro t ad2 σ2 b κ cells slots h1 h0 hA2 hx2 h2 h3 hq
      refine g_iload_n 40 C dL_told_39 rfl rfl rfl ?_
      refine g_iconst 41 C (nb 5) dL_told_40 rfl (by decide) ?_
      refine g_icmp_ge 44 102 C dL_told_41 (by decide) rfl (T := some ()) (E := none) (v := ()) (if_neg (nb_lt_f (by omega) (by omega))) (fun _ => ?_) (fun h => by cases h)
      have hu : t = 5 := by omega
      subst hu
      exact hend ad2 σ2 b κ cells slots h0 hA2 hx2 (by omega) (by omega) hq
    | succ d ih =>
      intro t ad2 σ2 b κ cells slots h1 h0 hA2 hx2 h2 h3 hq
      refine g_iload_n 40 C dL_told_39 rfl rfl rfl ?_
      refine g_iconst 41 C (nb 5) dL_told_40 rfl (by decide) ?_
      refine g_icmp_ge 44 102 C dL_told_41 (by decide) rfl (T := none) (E := some ()) (v := ()) (if_pos (nb_lt_t (by omega) (by omega))) (fun h => by cases h) (fun _ => ?_)
      refine g_aload_n 45 C dL_told_44 rfl rfl rfl ?_
      refine g_aload_n 46 C dL_told_45 rfl rfl rfl ?_
      refine g_aload_n 47 C dL_told_46 rfl rfl rfl ?_
      refine g_iload_n 48 C dL_told_47 rfl rfl rfl ?_
      refine lw_write 51 C hJ gL_told_X7_write ⟨(Nat.le_of_ble_eq_true rfl), (Nat.le_of_ble_eq_true rfl)⟩ (Nat.le_of_ble_eq_true rfl) hA2 (by omega : t < 5) ⟨by dsimp only; omega, by dsimp only; omega⟩ dL_told_48 rfl (fun ad3 σ3 g0 g1 g2 g3 g4 => ?_)
      rw [← g0]
      refine lk_line 54 C hJ hB gL_told_L_line ⟨(Nat.le_of_ble_eq_true rfl), (Nat.le_of_ble_eq_true rfl)⟩ (Nat.le_of_ble_eq_true rfl) g3 (by omega) ⟨by dsimp only; omega, by dsimp only; omega⟩ dL_told_51 rfl (fun a v bt hbt => ?_)
      have hT := lt_tB hA.2.1.2 t (by omega)
      refine ls_str2 57 C hJ gL_told_J4_append_15ec4 ⟨(Nat.le_of_ble_eq_true rfl), (Nat.le_of_ble_eq_true rfl)⟩ (Nat.le_of_ble_eq_true rfl) hq hbt (by omega) ⟨by dsimp only; omega, by dsimp only; omega⟩ dL_told_54 rfl (fun b2 κ2 hb2 hq2 _ => ?_)
      rw [← hb2]
      refine g_bipush 59 C (nb 47) dL_told_57 rfl (by decide) ?_
      refine ls_chrK 62 C hJ gL_told_J4_append_cf468 ⟨(Nat.le_of_ble_eq_true rfl), (Nat.le_of_ble_eq_true rfl)⟩ (Nat.le_of_ble_eq_true rfl) hq2 (by omega) (by decide) ⟨by dsimp only; omega, by dsimp only; omega⟩ dL_told_59 rfl (fun b3 κ3 hb3 hq3 => ?_)
      rw [← hb3]
      refine g_pop 63 C dL_told_62 rfl rfl ?_
      refine g_iconst 64 C (nb 0) dL_told_63 rfl (by decide) ?_
      refine g_istore_n 65 C [(3, .int (nb 0)), (2, .int (nb t)), (1, .ref (b3 0)), (0, .ref (ad3 0))] dL_told_64 rfl rfl (by decide) rfl ?_
      refine L3 ad3 σ3 t (72 + 47 * t) (34280 + 13573 * t) (ly_c 47 (ly_s (ly_v w t) (lt_t w t))) (by omega) g1 (by show (lt_t w t).1 + (ly_v w t).1 + 1 ≤ 400; omega) (by omega) (by omega) (fun b κ cells slots c1 c2 hq => ?_) 5 0 b3 κ3 _ _ (by omega) (by omega) (by omega) hq3
      refine g_lv (lv2 := [(2, .int (nb t)), (1, .ref (b 0)), (0, .ref (ad3 0))]) [1, 2, 3] rfl ?_
      refine g_iinc 99 C 0 (nb (t + 1)) [(2, .int (nb (t + 1))), (1, .ref (b 0)), (0, .ref (ad3 0))] dL_told_96 rfl rfl (nb_succ t) (by decide) rfl ?_
      refine g_goto 39 C dL_told_99 (by decide) ?_
      exact ih (t + 1) ad3 σ3 b κ cells slots (by omega) (g0.trans h0) g1 (fun p k hp => (g2 p k hp).trans (hx2 p k hp)) (by omega) (by omega) hq
  refine g_lv (lv2 := [(0, .ref (ad 0))]) [0] rfl ?_
  refine ls_new 7 C hJ ksL_told_iJ4 ksL_told_n1 ksL_told_n2 ksL_told_n3 gL_told_J4_init_da8c8 ksL_told_n4 ksL_told_n5 ⟨(Nat.le_of_ble_eq_true rfl), (Nat.le_of_ble_eq_true rfl)⟩ (Nat.le_of_ble_eq_true rfl) ⟨by dsimp only; omega, by dsimp only; omega⟩ dL_told_0 dL_told_3 dL_told_4 rfl (fun b0 => ?_)
  refine g_astore_n 8 C [(1, .ref (b0 0)), (0, .ref (ad 0))] dL_told_7 rfl rfl (by decide) rfl ?_
  refine g_iconst 9 C (nb 0) dL_told_8 rfl (by decide) ?_
  refine g_istore_n 10 C [(2, .int (nb 0)), (1, .ref (b0 0)), (0, .ref (ad 0))] dL_told_9 rfl rfl (by decide) rfl ?_
  refine L1 (fun b κ cells slots h2 h3 hq => ?_) 14 0 b0 iJ4 _ _ (by omega) (by omega) (by omega) (qk_of (k_nil _))
  · skip
    refine g_iconst 38 C (nb 0) dL_told_37 rfl (by decide) ?_
    refine g_istore_n 39 C [(2, .int (nb 0)), (1, .ref (b 0)), (0, .ref (ad 0))] dL_told_38 rfl rfl (by decide) rfl ?_
    refine g_lv (lv2 := [(2, .int (nb 0)), (1, .ref (b 0)), (0, .ref (ad 0))]) [0, 1, 2] rfl ?_
    refine L2 (fun ad2 σ2 b κ cells slots h0 hA2 hx2 h2 h3 hq => ?_) 5 0 ad σ b κ cells slots (by omega) rfl hA (fun _ _ _ => rfl) (by omega) (by omega) hq
    refine g_aload_n 103 C dL_told_102 rfl rfl rfl ?_
    refine g_aload_n 104 C dL_told_103 rfl rfl rfl ?_
    refine g_aload_n 105 C dL_told_104 rfl rfl rfl ?_
    refine lw_lines 108 C hJ gL_told_X7_writeCredits ⟨(Nat.le_of_ble_eq_true rfl), (Nat.le_of_ble_eq_true rfl)⟩ (Nat.le_of_ble_eq_true rfl) hA2 (by omega) ⟨by dsimp only; omega, by dsimp only; omega⟩ dL_told_105 rfl (fun ad3 σ3 g0 g1 g2 g3 g4 => ?_)
    rw [← g0]
    refine lk_line 111 C hJ hB gL_told_L_line ⟨(Nat.le_of_ble_eq_true rfl), (Nat.le_of_ble_eq_true rfl)⟩ (Nat.le_of_ble_eq_true rfl) g3 g4 ⟨by dsimp only; omega, by dsimp only; omega⟩ dL_told_108 rfl (fun a v bt hbt => ?_)
    have hT := lt_tB hA.2.1.2 5 (by omega)
    refine ls_str2 114 C hJ gL_told_J4_append_15ec4 ⟨(Nat.le_of_ble_eq_true rfl), (Nat.le_of_ble_eq_true rfl)⟩ (Nat.le_of_ble_eq_true rfl) hq hbt (by omega) ⟨by dsimp only; omega, by dsimp only; omega⟩ dL_told_111 rfl (fun b2 κ2 hb2 hq2 _ => ?_)
    rw [← hb2]
    refine ls_toS 117 C hJ hB gL_told_J4_toString_0e30d ⟨(Nat.le_of_ble_eq_true rfl), (Nat.le_of_ble_eq_true rfl)⟩ (Nat.le_of_ble_eq_true rfl) hq2 ⟨by dsimp only; omega, by dsimp only; omega⟩ dL_told_114 rfl (fun a2 v2 bt2 hbt2 => ?_)
    refine g_widen 420 122900 (by omega) (by omega) ?_
    exact g_aretX (P := (fun (u : (Nat → Nat) × sg_S × Nat × Nat × (Nat → Int32)) => u.1 0 = ad 0 ∧ cl_A m0 w c0 u.2.1 ∧ (∀ p k, p < 177 → u.2.1 p k = σ p k) ∧ ∀ j, j < (lt_w w).1 → (lt_w w).2 j ≤ 127 ∧ u.2.2.2.2 j = nb ((lt_w w).2 j))) (ra := fun u => u.2.2.1) (w' := (fun u => sl_w Y u.1 u.2.1 (ww_S Y u.2.2.1 u.2.2.2.1 0 0 (lt_w w).1 u.2.2.2.2 ++ []))) (ad3, σ3, a2, v2, bt2) C hr (Or.inl ⟨_, rfl⟩) hQ hsz dL_told_117 ⟨g0.trans h0, g1, fun p k hp => (g2 p k hp).trans (hx2 p k hp), hbt2⟩ rfl rfl
section SLM5
variable {p : Program} {l : Launch} {e : Env} {R : Room} {s : State} {m : MethodId} {args : Array Value} {below : List Frame} {meth : Method} {c : Code} {D : va_G} {Y : Nat → ClassId} {Z : (Nat → Prop) → State → Heap → Prop} {A : Nat → Prop} {nL : Nat} {cells slots : Nat} {Q : State → Prop} {cc : ByteArray} {own : String} {Ts : List Cond} {pc : Nat} {lv : List (Nat × Value)} {st : List Value} {X : va_W} {ad b : Nat → Nat} {σ κ : sg_S} {index : Nat} {jK jV jT : Nat → Nat} {f : Nat → Nat} {n0 : Nat} {m0 c0 : Nat} {w : Nat → Nat}
theorem lk_told (n : Nat) (C : sg_C p R s m args meth c cc nL own Ts D Y Z A) (hJ : sg_ZJ Z jK jV jT) (hB : sg_Zb Z) (hG : GoodIn Ts (va_wsS own index yL_told wsL_told)) (hR : 9 ≤ R.frames ∧ 263 ≤ R.locals) (hroom : (st.map fun v => v.category).sum ≤ 8) (hA : cl_A m0 w c0 σ) (hm : m0 ≤ 31) (hcs : cells + 420 ≤ R.cells ∧ slots + 122900 ≤ R.slots) (hdg : decode cc pc = .ok (.invokestatic index, 3)) (hn : pc + 3 = n) (kk : ∀ (ad2 : Nat → Nat) (σ2 : sg_S) (a v : Nat) (bt : Nat → Int32), ad2 0 = ad 0 → cl_A m0 w c0 σ2 → (∀ p k, p < 177 → σ2 p k = σ p k) → (∀ j, j < (lt_w w).1 → (lt_w w).2 j ≤ 127 ∧ bt j = nb ((lt_w w).2 j)) → sg_G p l e R s m args below meth c D A nL (cells + 420) (slots + 122900) Q n lv (.ref a :: st) (sl_w Y ad2 σ2 (ww_S Y a v 0 0 (lt_w w).1 bt ++ X))) : sg_G p l e R s m args below meth c D A nL cells slots Q pc lv (.ref (ad 0) :: st) (sl_w Y ad σ X) :=
  g_XSr n C (As := [.ref (ad 0)]) (st := st) (n0 := 1) (k_told l C.2.2.2.2.2.2.2.1 hJ hB hA hm) hG ⟨by decide +kernel, by decide +kernel, rfl⟩ rfl hR (sl_cutL Y ad σ [] X (fun u : (Nat → Nat) × sg_S × Nat × Nat × (Nat → Int32) => u.1) (fun u => u.2.1) (fun u => ww_S Y u.2.2.1 u.2.2.2.1 0 0 (lt_w w).1 u.2.2.2.2 ++ [])) rfl hroom hcs hdg hn rfl (fun u hu => kk u.1 u.2.1 u.2.2.1 u.2.2.2.1 u.2.2.2.2 hu.1 hu.2.1 hu.2.2.1 hu.2.2.2)
end SLM5
