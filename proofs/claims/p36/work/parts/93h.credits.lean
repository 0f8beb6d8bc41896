/-! THE LAW: credits -/
theorem ksL_credits_ai : Cond.arrayClass .int ∈ wsL_credits := by decide +kernel
theorem ksL_credits_iJ4 : ∀ w ∈ u_ws RJ4 TJ4 4, w ∈ wsL_credits := by decide +kernel
theorem ksL_credits_n1 : Cond.classLink RL 67 RJ4 ∈ wsL_credits := by decide +kernel
theorem ksL_credits_n2 : Cond.instantiable RJ4 4 ∈ wsL_credits := by decide +kernel
theorem ksL_credits_n3 : Cond.initialized RJ4 ∈ wsL_credits := by decide +kernel
theorem ksL_credits_n4 : Cond.methodLink RL 69 yJ4_init_da8c8 ∈ wsL_credits := by decide +kernel
theorem ksL_credits_n5 : Cond.instanceMethod yJ4_init_da8c8 ∈ wsL_credits := by decide +kernel
/-- the constants of the law -/
def sg_ZL (Z : (Nat → Prop) → State → Heap → Prop) (jK : Nat → Nat) : Prop := ∀ (A : Nat → Prop) (U : State) (H : Heap), Z A U H → (vk_R RL 116 "" (jK 8) U ∧ vk_R RL 118 " " (jK 9) U) ∧ vk_R RL 134 ":" (jK 10) U ∧ vk_R RL 136 "s" (jK 11) U ∧ vk_R RL 138 "r" (jK 12) U ∧ vk_R RL 140 "u" (jK 13) U ∧ vk_R RL 142 "a" (jK 14) U
section KR
variable {m c : Nat} {w : Nat → Nat} {σ : sg_S}
theorem k_c0 (h : cl_A m w c σ) {i : Nat} (hi : i < w 1) : f_X7_creditOf (nb i) (nb 0) σ = some (nb (w (55 + 3 * i))) := ce_cr h hi (k := 0) (by decide)
theorem k_c1 (h : cl_A m w c σ) {i : Nat} (hi : i < w 1) : f_X7_creditOf (nb i) (nb 1) σ = some (nb (w (56 + 3 * i))) := (ce_cr h hi (k := 1) (by decide)).trans (by rw [(by omega : 55 + 3 * i + 1 = 56 + 3 * i)])
theorem k_c2 (h : cl_A m w c σ) {i : Nat} (hi : i < w 1) : f_X7_creditOf (nb i) (nb 2) σ = some (nb (w (57 + 3 * i))) := (ce_cr h hi (k := 2) (by decide)).trans (by rw [(by omega : 55 + 3 * i + 2 = 57 + 3 * i)])
theorem k_c3 (h : cl_A m w c σ) {i : Nat} (hi : i < w 1) : f_X7_creditOf (nb i) (nb 3) σ = some (nb (w (57 + 3 * i) - w 0)) := ce_cr3 h hi
end KR
def ci_1 (w : Nat → Nat) (c t : Nat) : Nat := gc_s (fun i => decide (w (55 + 3 * i) = t)) (fun i => w (56 + 3 * i)) c
def ci_2 (w : Nat → Nat) (c t : Nat) : Nat := gc_s (fun i => decide (w (55 + 3 * i) = t)) (fun _ => 1) c
def ci_3 (w : Nat → Nat) (c d : Nat) : Nat := gc_s (fun i => decide (w (57 + 3 * i) = w 0 + d)) (fun i => w (56 + 3 * i)) c
theorem ci_s1 (w : Nat → Nat) (c i : Nat) : ci_1 w (c + 1) i = if i = w (55 + 3 * c) then ci_1 w c (w (55 + 3 * c)) + w (56 + 3 * c) else ci_1 w c i := by
  unfold ci_1
  by_cases e : i = w (55 + 3 * c)
  · rw [if_pos e, ← e, gc_sT (p := fun i0 => decide (w (55 + 3 * i0) = i)) (h := fun i => w (56 + 3 * i)) (decide_eq_true e.symm)]
  · rw [if_neg e, ← gc_sF (p := fun i0 => decide (w (55 + 3 * i0) = i)) (h := fun i => w (56 + 3 * i)) (decide_eq_false (fun q => e q.symm))]
theorem ci_s2 (w : Nat → Nat) (c i : Nat) : ci_2 w (c + 1) i = if i = w (55 + 3 * c) then ci_2 w c (w (55 + 3 * c)) + 1 else ci_2 w c i := by
  unfold ci_2
  by_cases e : i = w (55 + 3 * c)
  · rw [if_pos e, ← e, gc_sT (p := fun i0 => decide (w (55 + 3 * i0) = i)) (h := fun _ => 1) (decide_eq_true e.symm)]
  · rw [if_neg e, ← gc_sF (p := fun i0 => decide (w (55 + 3 * i0) = i)) (h := fun _ => 1) (decide_eq_false (fun q => e q.symm))]
theorem ci_s3 (w : Nat → Nat) (c i : Nat) (h0 : w 0 ≤ w (57 + 3 * c)) : ci_3 w (c + 1) i = if i = w (57 + 3 * c) - w 0 then ci_3 w c (w (57 + 3 * c) - w 0) + w (56 + 3 * c) else ci_3 w c i := by
  unfold ci_3
  by_cases e : i = w (57 + 3 * c) - w 0
  · rw [if_pos e, ← e, gc_sT (p := fun i0 => decide (w (57 + 3 * i0) = w 0 + i)) (h := fun i => w (56 + 3 * i)) (decide_eq_true (by omega))]
  · rw [if_neg e, ← gc_sF (p := fun i0 => decide (w (57 + 3 * i0) = w 0 + i)) (h := fun i => w (56 + 3 * i)) (decide_eq_false (by omega))]
theorem ca_e {f f2 : Nat → Nat} {t x : Nat} (h : ∀ i, f2 i = if i = t then x else f i) : upd (fun i => nb (f i)) t (nb x) = fun i => nb (f2 i) := by
  funext i
  rw [k_upd, h]
  by_cases e : i = t
  · rw [if_pos e, if_pos e]
  · rw [if_neg e, if_neg e]
def ca_A (Y : Nat → ClassId) (q n : Nat) (f : Nat → Nat) : Nat × va_E := (q, .inl (Y 0, n, .inl (fun i => nb (f i))))
def ca_W (Y : Nat → ClassId) (q1 q2 q3 : Nat) (f1 f2 f3 : Nat → Nat) : va_W := [ca_A Y q3 7 f3, ca_A Y q2 5 f2, ca_A Y q1 5 f1]
def lz_p (w : Nat → Nat) (c : Nat) : Nat × (Nat → Nat) := if 0 < c then ly_c 32 (lz_s w c) else lz_s w c
theorem k_qc {κ : sg_S} {n : Nat} {f g : Nat → Nat} (h : qb_I κ n f) (hg : ∀ i, i < n → f i = g i) : qb_I κ n g := by
  obtain ⟨r, h1, h2, h3, h4⟩ := h
  exact ⟨r, h1, h2, h3, fun i hi => by rw [← hg i hi]; exact h4 i hi⟩
theorem k_cat {κ : sg_S} {n c : Nat} {f : Nat → Nat} (h : qb_I κ (n + 1) (ly_cat f n (fun _ => c))) : qb_I κ (n + 1) (gw_u f n c) := by
  refine k_qc h (fun i hi => ?_)
  unfold ly_cat gw_u
  by_cases e : i = n
  · rw [if_neg (by omega), if_pos e]
  · rw [if_pos (by omega), if_neg e]
theorem k_cat0 {κ : sg_S} {n : Nat} {f g : Nat → Nat} (h : qb_I κ (n + 0) (ly_cat f n g)) : qb_I κ n f := by
  refine k_qc h (fun i hi => ?_)
  unfold ly_cat
  rw [if_pos hi]
theorem lz_B {w : Nat → Nat} (hK : lz_K w) : ∀ c, c ≤ w 1 → (lz_s w c).1 ≤ 11 * c ∧ (lz_p w c).1 ≤ 11 * c + 1 := by
  intro c
  induction c with
  | zero => exact fun _ => ⟨Nat.le_refl 0, by unfold lz_p; rw [if_neg (by omega)]; exact Nat.zero_le _⟩
  | succ c ih =>
    intro h
    obtain ⟨i1, i2⟩ := ih (by omega)
    obtain ⟨k1, k2, k3⟩ := hK.2 c (by omega)
    have d1 := qd_l1 (v := w (55 + 3 * c)) (by omega)
    have d2 := qd_l2 (v := w (56 + 3 * c)) (by omega)
    have d3 := qd_l4 (w (57 + 3 * c))
    have e0 : (lz_s w (c + 1)).1 = (lz_p w c).1 + qd_l (w (55 + 3 * c)) + 1 + qd_l (w (56 + 3 * c)) + 1 + qd_l (w (57 + 3 * c)) := by
      show (lz_1 w c (lz_p w c)).1 = _
      rfl
    have e1 : (lz_p w c).1 ≤ 11 * c + (if 0 < c then 1 else 0) := by
      unfold lz_p
      by_cases q : 0 < c
      · rw [if_pos q, if_pos q]
        show (lz_s w c).1 + 1 ≤ _
        omega
      · rw [if_neg q, if_neg q]
        omega
    have e2 : (lz_s w (c + 1)).1 ≤ 11 * (c + 1) := by
      by_cases q : 0 < c
      · rw [if_pos q] at e1
        omega
      · rw [if_neg q] at e1
        omega
    refine ⟨e2, ?_⟩
    unfold lz_p
    rw [if_pos (by omega)]
    show (lz_s w (c + 1)).1 + 1 ≤ _
    omega
section SLC
variable {p : Program} {l : Launch} {e : Env} {R : Room} {s : State} {m : MethodId} {args : Array Value} {below : List Frame} {meth : Method} {c : Code} {D : va_G} {Y : Nat → ClassId} {Z : (Nat → Prop) → State → Heap → Prop} {A : Nat → Prop} {nL : Nat} {cells slots : Nat} {Q : State → Prop} {cc : ByteArray} {own : String} {Ts : List Cond} {pc : Nat} {lv : List (Nat × Value)} {st : List Value} {X : va_W} {ad b : Nat → Nat} {σ κ : sg_S} {index : Nat} {jK jV jT : Nat → Nat} {f : Nat → Nat} {n0 : Nat} {q1 q2 q3 t x : Nat} {f1 f2 f3 g : Nat → Nat} {q N : Nat}
/-- a new array of numbers, in front -/
theorem ls_newI (n : Nat) (C : sg_C p R s m args meth c cc nL own Ts D Y Z A) {k : Int32} (harr : Cond.arrayClass .int ∈ Ts) (hn0 : ¬ k < 0) (hN : k.toNatClampNeg = N) (hb : N * componentBytes .int ≤ 536870912) (hcs : cells + 1 ≤ R.cells ∧ slots + N ≤ R.slots) (hdg : decode cc pc = .ok (.newarray .int, 2)) (hn : pc + 2 = n) (kk : ∀ q : Nat, sg_G p l e R s m args below meth c D A nL (cells + 1) (slots + N) Q n lv (.ref q :: st) (sl_w Y ad σ (ca_A Y q N (fun _ => 0) :: X))) : sg_G p l e R s m args below meth c D A nL cells slots Q pc lv (.int k :: st) (sl_w Y ad σ X) := by
  refine g_newaI n C N harr hn0 hN hb hcs.1 hcs.2 hdg hn (fun q => ?_)
  refine g_perm (w2 := sl_w Y ad σ ([ca_A Y q N (fun _ => 0)] ++ X)) ?_ (kk q)
  rw [sl_wE, sl_wE]
  exact List.perm_append_comm
/-- an element, and a change of one: the array stands at place k of the law's cells -/
theorem ca_get (n : Nat) (C : sg_C p R s m args meth c cc nL own Ts D Y Z A) (k : Nat) (he : X[k]? = some (ca_A Y q N g)) (ht : t < N) (hN : N < 2147483648) (hdg : decode cc pc = .ok (.iaload, 1)) (hn : pc + 1 = n) (kk : sg_G p l e R s m args below meth c D A nL cells slots Q n lv (.int (nb (g t)) :: st) (sl_w Y ad σ X)) : sg_G p l e R s m args below meth c D A nL cells slots Q pc lv (.int (nb t) :: .ref q :: st) (sl_w Y ad σ X) :=
  g_ialdc n C k t (nb (g t)) hdg hn (sl_atX he) (nb_tn (by omega)) (nb_in ht hN) rfl kk
theorem ca_put (n : Nat) (C : sg_C p R s m args meth c cc nL own Ts D Y Z A) (k : Nat) {g2 : Nat → Nat} {X2 : va_W} (he : X[k]? = some (ca_A Y q N g)) (ht : t < N) (hN : N < 2147483648) (hg : ∀ i, g2 i = if i = t then x else g i) (hX : X.set k (ca_A Y q N g2) = X2) (hdg : decode cc pc = .ok (.iastore, 1)) (hn : pc + 1 = n) (kk : sg_G p l e R s m args below meth c D A nL cells slots Q n lv st (sl_w Y ad σ X2)) : sg_G p l e R s m args below meth c D A nL cells slots Q pc lv (.int (nb x) :: .int (nb t) :: .ref q :: st) (sl_w Y ad σ X) := by
  refine g_iast n C (w2 := sl_w Y ad σ X2) k hdg hn (sl_atX he) (nb_in ht hN) ?_ kk
  rw [nb_tn (by omega), sl_setX (List.getElem?_eq_some_iff.mp he).1, ca_e hg]
  exact congrArg (sl_w Y ad σ) hX
end SLC
set_option maxHeartbeats 4000000 in
set_option maxRecDepth 100000 in
theorem k_credits (l : Launch) {D : va_G} {Y : Nat → ClassId} {Z : (Nat → Prop) → State → Heap → Prop} (hZ : sg_Zok Z) {jK jV jT : Nat → Nat} (hJ : sg_ZJ Z jK jV jT) (hB : sg_Zb Z) (hL : sg_ZL Z jK) {ad : Nat → Nat} {σ : sg_S} {m0 c0 : Nat} {w : Nat → Nat} (hA : cl_A m0 w c0 σ) (hm : m0 ≤ 31) : sg_XI l yL_credits wsL_credits 8 240 210 44000 D Y Z [.ref (ad 0)] (sl_w Y ad σ []) (fun (r : Int32) (u : (Nat → Nat) × sg_S) => r = 1 ∧ u.1 0 = ad 0 ∧ cl_A m0 w c0 u.2 ∧ cl_Q σ u.2) (fun u => sl_w Y u.1 u.2 []) := by
  intro sz
  refine sg_enterX (own := RL) (maxL := 12) (ret := (some .boolean)) (cc := cL_credits) (by decide +kernel) rfl rfl (Nat.le_of_ble_eq_true rfl) hZ ?_
  intro p e s m args below meth cd C hr hin Q hQ hsz
  have hLL := hL _ _ _ C.2.2.2.2.2.2.2.2.1
  have hJ1 : w 1 ≤ 8 := hA.2.1.2.1
  have hJ0 : w 0 ≤ 31 := Nat.le_trans hA.2.1.1.1 hm
  have hJ6 := hA.2.1.2.2.2.2.2.2.1
  have hJ7 := hA.2.1.2.2.2.2.2.2.2
  have hK : lz_K w := ⟨hJ1, fun c hc => by
    obtain ⟨b1, b2, b3, b4, b5⟩ := hJ6 c hc
    exact ⟨b1, b3, by omega⟩⟩
  have hBn := lz_B hK (w 1) (Nat.le_refl _)
  refine g_lv (lv2 := [(0, .ref (ad 0))]) [0] rfl ?_
  refine g_aload_n 1 C dL_credits_0 rfl rfl rfl ?_
  refine g_iconst 2 C (nb 1) dL_credits_1 rfl (by decide) ?_
  refine lc_account 5 C gL_credits_X7_account ⟨(Nat.le_of_ble_eq_true rfl), (Nat.le_of_ble_eq_true rfl)⟩ (Nat.le_of_ble_eq_true rfl) (ce_account hA (k := 1) (by decide)) ⟨(Nat.le_of_ble_eq_true rfl), (Nat.le_of_ble_eq_true rfl)⟩ dL_credits_2 rfl ?_
  refine g_top (v := (nb (w 1))) rfl ?_
  refine g_istore_n 6 C [(1, .int (nb (w 1))), (0, .ref (ad 0))] dL_credits_5 rfl rfl (by decide) rfl ?_
  refine g_aload_n 7 C dL_credits_6 rfl rfl rfl ?_
  refine g_iconst 8 C (nb 0) dL_credits_7 rfl (by decide) ?_
  refine lc_account 11 C gL_credits_X7_account ⟨(Nat.le_of_ble_eq_true rfl), (Nat.le_of_ble_eq_true rfl)⟩ (Nat.le_of_ble_eq_true rfl) (ce_account hA (k := 0) (by decide)) ⟨(Nat.le_of_ble_eq_true rfl), (Nat.le_of_ble_eq_true rfl)⟩ dL_credits_8 rfl ?_
  refine g_top (v := (nb (w 0))) rfl ?_
  refine g_istore_n 12 C [(2, .int (nb (w 0))), (1, .int (nb (w 1))), (0, .ref (ad 0))] dL_credits_11 rfl rfl (by decide) rfl ?_
  refine g_iconst 13 C (nb 5) dL_credits_12 rfl (by decide) ?_
  refine ls_newI 15 C (N := 5) ksL_credits_ai (by decide) rfl (by decide) ⟨(Nat.le_of_ble_eq_true rfl), (Nat.le_of_ble_eq_true rfl)⟩ dL_credits_13 rfl (fun q1 => ?_)
  refine g_astore_n 16 C [(3, .ref q1), (2, .int (nb (w 0))), (1, .int (nb (w 1))), (0, .ref (ad 0))] dL_credits_15 rfl rfl (by decide) rfl ?_
  refine g_iconst 17 C (nb 5) dL_credits_16 rfl (by decide) ?_
  refine ls_newI 19 C (N := 5) ksL_credits_ai (by decide) rfl (by decide) ⟨(Nat.le_of_ble_eq_true rfl), (Nat.le_of_ble_eq_true rfl)⟩ dL_credits_17 rfl (fun q2 => ?_)
  refine g_astore 21 C [(4, .ref q2), (3, .ref q1), (2, .int (nb (w 0))), (1, .int (nb (w 1))), (0, .ref (ad 0))] dL_credits_19 rfl (by decide) rfl ?_
  refine g_bipush 23 C (nb 7) dL_credits_21 rfl (by decide) ?_
  refine ls_newI 25 C (N := 7) ksL_credits_ai (by decide) rfl (by decide) ⟨(Nat.le_of_ble_eq_true rfl), (Nat.le_of_ble_eq_true rfl)⟩ dL_credits_23 rfl (fun q3 => ?_)
  refine g_astore 27 C [(5, .ref q3), (4, .ref q2), (3, .ref q1), (2, .int (nb (w 0))), (1, .int (nb (w 1))), (0, .ref (ad 0))] dL_credits_25 rfl (by decide) rfl ?_
  refine g_iconst 28 C (-1) dL_credits_27 rfl (by decide) ?_
  refine g_istore 30 C [(6, .int (-1)), (5, .ref q3), (4, .ref q2), (3, .ref q1), (2, .int (nb (w 0))), (1, .int (nb (w 1))), (0, .ref (ad 0))] dL_credits_28 rfl (by decide) rfl ?_
  refine ls_new 37 C hJ ksL_credits_iJ4 ksL_credits_n1 ksL_credits_n2 ksL_credits_n3 gL_credits_J4_init_da8c8 ksL_credits_n4 ksL_credits_n5 ⟨(Nat.le_of_ble_eq_true rfl), (Nat.le_of_ble_eq_true rfl)⟩ (Nat.le_of_ble_eq_true rfl) ⟨by dsimp only; omega, by dsimp only; omega⟩ dL_credits_30 dL_credits_33 dL_credits_34 rfl (fun b0 => ?_)
  refine g_astore 39 C [(7, .ref (b0 0)), (6, .int (-1)), (5, .ref q3), (4, .ref q2), (3, .ref q1), (2, .int (nb (w 0))), (1, .int (nb (w 1))), (0, .ref (ad 0))] dL_credits_37 rfl (by decide) rfl ?_
  refine g_iconst 40 C (nb 0) dL_credits_39 rfl (by decide) ?_
  refine g_istore 42 C [(8, .int (nb 0)), (7, .ref (b0 0)), (6, .int (-1)), (5, .ref q3), (4, .ref q2), (3, .ref q1), (2, .int (nb (w 0))), (1, .int (nb (w 1))), (0, .ref (ad 0))] dL_credits_40 rfl (by decide) rfl ?_
  refine g_lv (lv2 := [(8, .int (nb 0)), (7, .ref (b0 0)), (6, .int (-1)), (1, .int (nb (w 1))), (2, .int (nb (w 0))), (3, .ref q1), (4, .ref q2), (5, .ref q3), (0, .ref (ad 0))]) [0, 1, 2, 7, 6, 5, 4, 3, 8] rfl ?_
  have L1 : (∀ (b : Nat → Nat) (κ : sg_S) (last : Int32) (cells slots : Nat), cells ≤ 53 → slots ≤ 15240 → qb_I κ (lz_s w (w 1)).1 (lz_s w (w 1)).2 → sg_G p l e { frames := 8, cells := 210, slots := 44000, locals := 240 } s m args below meth cd D (va_A (sl_w Y ad σ []) s.heap.size) 12 cells slots Q 282 [(8, .int (nb (w 1))), (7, .ref (b 0)), (6, .int last), (1, .int (nb (w 1))), (2, .int (nb (w 0))), (3, .ref q1), (4, .ref q2), (5, .ref q3), (0, .ref (ad 0))] [] (sl_w Y ad σ (ww_J4 Y b κ ++ ca_W Y q1 q2 q3 (ci_1 w (w 1)) (ci_2 w (w 1)) (ci_3 w (w 1))))) → ∀ (d c : Nat) (b : Nat → Nat) (κ : sg_S) (last : Int32) (cells slots : Nat), c + d = w 1 → ((c = 0 ∧ last = -1) ∨ (1 ≤ c ∧ ∃ lr, lr < w 1 ∧ last = nb lr ∧ rk_c (fun o => go_B w o lr) (w 1) = c - 1)) → cells ≤ 5 + 6 * c → slots ≤ 40 + 1900 * c → qb_I κ (lz_s w c).1 (lz_s w c).2 → sg_G p l e { frames := 8, cells := 210, slots := 44000, locals := 240 } s m args below meth cd D (va_A (sl_w Y ad σ []) s.heap.size) 12 cells slots Q 42 [(8, .int (nb c)), (7, .ref (b 0)), (6, .int last), (1, .int (nb (w 1))), (2, .int (nb (w 0))), (3, .ref q1), (4, .ref q2), (5, .ref q3), (0, .ref (ad 0))] [] (sl_w Y ad σ (ww_J4 Y b κ ++ ca_W Y q1 q2 q3 (ci_1 w c) (ci_2 w c) (ci_3 w c))) := by
    intro hend d
    induction d with
    | zero =>
      intro c b κ last cells slots h1 hl h2 h3 hq
      refine g_iload 44 C dL_credits_42 rfl rfl ?_
      refine g_iload_n 45 C dL_credits_44 rfl rfl rfl ?_
      refine g_icmp_ge 48 282 C dL_credits_45 (by decide) rfl (T := some ()) (E := none) (v := ()) (if_neg (nb_lt_f (by omega) (by omega))) (fun _ => ?_) (fun h => by cases h)
      have hc : c = w 1 := by omega
      rw [hc] at hq ⊢
      exact hend b κ last cells slots (by omega) (by omega) hq
    | succ d ih =>
      intro c b κ last cells slots h1 hl h2 h3 hq
      have hc : c < w 1 := by omega
      obtain ⟨b1, b2, b3, b4, b5⟩ := hJ6 c hc
      have b6 := hJ7 c hc
      have hB := lz_B hK c (by omega)
      refine g_iload 44 C dL_credits_42 rfl rfl ?_
      refine g_iload_n 45 C dL_credits_44 rfl rfl rfl ?_
      refine g_icmp_ge 48 282 C dL_credits_45 (by decide) rfl (T := none) (E := some ()) (v := ()) (if_pos (nb_lt_t (by omega) (by omega))) (fun h => by cases h) (fun _ => ?_)
      refine g_aload_n 49 C dL_credits_48 rfl rfl rfl ?_
      refine g_iload 51 C dL_credits_49 rfl rfl ?_
      refine g_iconst 52 C (nb 2) dL_credits_51 rfl (by decide) ?_
      refine lc_creditOf 55 C gL_credits_X7_creditOf ⟨(Nat.le_of_ble_eq_true rfl), (Nat.le_of_ble_eq_true rfl)⟩ (Nat.le_of_ble_eq_true rfl) (k_c2 hA (by omega : c < w 1)) ⟨by dsimp only; omega, by dsimp only; omega⟩ dL_credits_52 rfl ?_
      refine g_iload_n 56 C dL_credits_55 rfl rfl rfl ?_
      refine g_isub 57 C dL_credits_56 rfl ?_
      refine g_top (v := (nb (w (57 + 3 * c) - w 0))) (nb_sub (by omega)).symm ?_
      refine g_istore 59 C [(9, .int (nb (w (57 + 3 * c) - w 0))), (8, .int (nb c)), (7, .ref (b 0)), (6, .int last), (1, .int (nb (w 1))), (2, .int (nb (w 0))), (3, .ref q1), (4, .ref q2), (5, .ref q3), (0, .ref (ad 0))] dL_credits_57 rfl (by decide) rfl ?_
      refine g_aload_n 60 C dL_credits_59 rfl rfl rfl ?_
      refine g_aload_n 61 C dL_credits_60 rfl rfl rfl ?_
      refine g_iload 63 C dL_credits_61 rfl rfl ?_
      refine g_iconst 64 C (nb 0) dL_credits_63 rfl (by decide) ?_
      refine lc_creditOf 67 C gL_credits_X7_creditOf ⟨(Nat.le_of_ble_eq_true rfl), (Nat.le_of_ble_eq_true rfl)⟩ (Nat.le_of_ble_eq_true rfl) (k_c0 hA (by omega : c < w 1)) ⟨by dsimp only; omega, by dsimp only; omega⟩ dL_credits_64 rfl ?_
      refine g_dup2 68 C dL_credits_67 rfl rfl rfl ?_
      refine ca_get 69 C 4 (g := ci_1 w c) (N := 5) rfl (by omega) (by decide) dL_credits_68 rfl ?_
      refine g_aload_n 70 C dL_credits_69 rfl rfl rfl ?_
      refine g_iload 72 C dL_credits_70 rfl rfl ?_
      refine g_iconst 73 C (nb 1) dL_credits_72 rfl (by decide) ?_
      refine lc_creditOf 76 C gL_credits_X7_creditOf ⟨(Nat.le_of_ble_eq_true rfl), (Nat.le_of_ble_eq_true rfl)⟩ (Nat.le_of_ble_eq_true rfl) (k_c1 hA (by omega : c < w 1)) ⟨by dsimp only; omega, by dsimp only; omega⟩ dL_credits_73 rfl ?_
      refine g_iadd 77 C dL_credits_76 rfl ?_
      refine g_top (v := (nb (ci_1 w c (w (55 + 3 * c)) + w (56 + 3 * c)))) (nb_add _ _).symm ?_
      refine ca_put 78 C 4 (g := ci_1 w c) (g2 := ci_1 w (c + 1)) (N := 5) (X2 := ww_J4 Y b κ ++ ca_W Y q1 q2 q3 (ci_1 w (c + 1)) (ci_2 w c) (ci_3 w c)) rfl (by omega) (by decide) (ci_s1 w c) rfl dL_credits_77 rfl ?_
      refine g_aload 80 C dL_credits_78 rfl rfl ?_
      refine g_aload_n 81 C dL_credits_80 rfl rfl rfl ?_
      refine g_iload 83 C dL_credits_81 rfl rfl ?_
      refine g_iconst 84 C (nb 0) dL_credits_83 rfl (by decide) ?_
      refine lc_creditOf 87 C gL_credits_X7_creditOf ⟨(Nat.le_of_ble_eq_true rfl), (Nat.le_of_ble_eq_true rfl)⟩ (Nat.le_of_ble_eq_true rfl) (k_c0 hA (by omega : c < w 1)) ⟨by dsimp only; omega, by dsimp only; omega⟩ dL_credits_84 rfl ?_
      refine g_dup2 88 C dL_credits_87 rfl rfl rfl ?_
      refine ca_get 89 C 3 (g := ci_2 w c) (N := 5) rfl (by omega) (by decide) dL_credits_88 rfl ?_
      refine g_iconst 90 C (nb 1) dL_credits_89 rfl (by decide) ?_
      refine g_iadd 91 C dL_credits_90 rfl ?_
      refine g_top (v := (nb (ci_2 w c (w (55 + 3 * c)) + 1))) (nb_add _ _).symm ?_
      refine ca_put 92 C 3 (g := ci_2 w c) (g2 := ci_2 w (c + 1)) (N := 5) (X2 := ww_J4 Y b κ ++ ca_W Y q1 q2 q3 (ci_1 w (c + 1)) (ci_2 w (c + 1)) (ci_3 w c)) rfl (by omega) (by decide) (ci_s2 w c) rfl dL_credits_91 rfl ?_
      refine g_iload 94 C dL_credits_92 rfl rfl ?_
      refine g_iconst 95 C (nb 1) dL_credits_94 rfl (by decide) ?_
      refine g_icmp_lt 98 117 C dL_credits_95 (by decide) rfl (T := none) (E := some ()) (v := ()) (if_pos (nb_le_t (by omega) (by omega))) (fun h => by cases h) (fun _ => ?_)
      refine g_iload 100 C dL_credits_98 rfl rfl ?_
      refine g_bipush 102 C (nb 6) dL_credits_100 rfl (by decide) ?_
      refine g_icmp_gt 105 117 C dL_credits_102 (by decide) rfl (T := none) (E := some ()) (v := ()) (if_pos (nb_le_t (by omega) (by omega))) (fun h => by cases h) (fun _ => ?_)
      refine g_aload_n 106 C dL_credits_105 rfl rfl rfl ?_
      refine g_iload 108 C dL_credits_106 rfl rfl ?_
      refine g_iconst 109 C (nb 3) dL_credits_108 rfl (by decide) ?_
      refine lc_creditOf 112 C gL_credits_X7_creditOf ⟨(Nat.le_of_ble_eq_true rfl), (Nat.le_of_ble_eq_true rfl)⟩ (Nat.le_of_ble_eq_true rfl) (k_c3 hA (by omega : c < w 1)) ⟨by dsimp only; omega, by dsimp only; omega⟩ dL_credits_109 rfl ?_
      refine g_iload 114 C dL_credits_112 rfl rfl ?_
      refine g_icmp_eq 117 119 C dL_credits_114 (by decide) rfl (T := some ()) (E := none) (v := ()) (if_pos rfl) (fun _ => ?_) (fun h => by cases h)
      refine g_aload 121 C dL_credits_119 rfl rfl ?_
      refine g_iload 123 C dL_credits_121 rfl rfl ?_
      refine g_dup2 124 C dL_credits_123 rfl rfl rfl ?_
      refine ca_get 125 C 2 (g := ci_3 w c) (N := 7) rfl (by omega) (by decide) dL_credits_124 rfl ?_
      refine g_aload_n 126 C dL_credits_125 rfl rfl rfl ?_
      refine g_iload 128 C dL_credits_126 rfl rfl ?_
      refine g_iconst 129 C (nb 1) dL_credits_128 rfl (by decide) ?_
      refine lc_creditOf 132 C gL_credits_X7_creditOf ⟨(Nat.le_of_ble_eq_true rfl), (Nat.le_of_ble_eq_true rfl)⟩ (Nat.le_of_ble_eq_true rfl) (k_c1 hA (by omega : c < w 1)) ⟨by dsimp only; omega, by dsimp only; omega⟩ dL_credits_129 rfl ?_
      refine g_iadd 133 C dL_credits_132 rfl ?_
      refine g_top (v := (nb (ci_3 w c (w (57 + 3 * c) - w 0) + w (56 + 3 * c)))) (nb_add _ _).symm ?_
      refine ca_put 134 C 2 (g := ci_3 w c) (g2 := ci_3 w (c + 1)) (N := 7) (X2 := ww_J4 Y b κ ++ ca_W Y q1 q2 q3 (ci_1 w (c + 1)) (ci_2 w (c + 1)) (ci_3 w (c + 1))) rfl (by omega) (by decide) (fun i => ci_s3 w c i (by omega)) rfl dL_credits_133 rfl ?_
      refine g_aload 136 C dL_credits_134 rfl rfl ?_
      refine g_iload 138 C dL_credits_136 rfl rfl ?_
      have K272 : ∀ (b2 : Nat → Nat) (κ2 : sg_S) (rr : Nat) (cells slots : Nat), rr < w 1 → rk_c (fun o => go_B w o rr) (w 1) = c → cells ≤ 5 + 6 * (c + 1) → slots ≤ 40 + 1900 * (c + 1) → qb_I κ2 (lz_s w (c + 1)).1 (lz_s w (c + 1)).2 → sg_G p l e { frames := 8, cells := 210, slots := 44000, locals := 240 } s m args below meth cd D (va_A (sl_w Y ad σ []) s.heap.size) 12 cells slots Q 272 [(10, .int (nb rr)), (9, .int (nb (w (57 + 3 * c) - w 0))), (8, .int (nb c)), (7, .ref (b2 0)), (6, .int last), (1, .int (nb (w 1))), (2, .int (nb (w 0))), (3, .ref q1), (4, .ref q2), (5, .ref q3), (0, .ref (ad 0))] [] (sl_w Y ad σ (ww_J4 Y b2 κ2 ++ ca_W Y q1 q2 q3 (ci_1 w (c + 1)) (ci_2 w (c + 1)) (ci_3 w (c + 1)))) := by
        intro b2 κ2 rr cells slots g1 g2 g3 g4 g5
        refine g_iload 274 C dL_credits_272 rfl rfl ?_
        refine g_istore 276 C [(6, .int (nb rr)), (10, .int (nb rr)), (9, .int (nb (w (57 + 3 * c) - w 0))), (8, .int (nb c)), (7, .ref (b2 0)), (1, .int (nb (w 1))), (2, .int (nb (w 0))), (3, .ref q1), (4, .ref q2), (5, .ref q3), (0, .ref (ad 0))] dL_credits_274 rfl (by decide) rfl ?_
        refine g_lv (lv2 := [(8, .int (nb c)), (7, .ref (b2 0)), (6, .int (nb rr)), (1, .int (nb (w 1))), (2, .int (nb (w 0))), (3, .ref q1), (4, .ref q2), (5, .ref q3), (0, .ref (ad 0))]) [3, 4, 0, 5, 6, 7, 8, 9, 10] rfl ?_
        refine g_iinc 279 C 0 (nb (c + 1)) [(8, .int (nb (c + 1))), (7, .ref (b2 0)), (6, .int (nb rr)), (1, .int (nb (w 1))), (2, .int (nb (w 0))), (3, .ref q1), (4, .ref q2), (5, .ref q3), (0, .ref (ad 0))] dL_credits_276 rfl rfl (nb_succ c) (by decide) rfl ?_
        refine g_goto 42 C dL_credits_279 (by decide) ?_
        exact ih (c + 1) b2 κ2 (nb rr) cells slots (by omega) (Or.inr ⟨by omega, rr, g1, rfl, by omega⟩) (by omega) (by omega) g5
      have K151 : ∀ (b2 : Nat → Nat) (κ2 : sg_S), qb_I κ2 (lz_p w c).1 (lz_p w c).2 → sg_G p l e { frames := 8, cells := 210, slots := 44000, locals := 240 } s m args below meth cd D (va_A (sl_w Y ad σ []) s.heap.size) 12 (cells + 1) (slots + 900) Q 151 [(9, .int (nb (w (57 + 3 * c) - w 0))), (8, .int (nb c)), (7, .ref (b2 0)), (6, .int last), (1, .int (nb (w 1))), (2, .int (nb (w 0))), (3, .ref q1), (4, .ref q2), (5, .ref q3), (0, .ref (ad 0))] [.ref (b2 0)] (sl_w Y ad σ (ww_J4 Y b2 κ2 ++ ca_W Y q1 q2 q3 (ci_1 w (c + 1)) (ci_2 w (c + 1)) (ci_3 w (c + 1)))) := by
        intro b2 κ2 hq2
        have d1 := qd_l1 (v := w (55 + 3 * c)) (by omega)
        have d2 := qd_l2 (v := w (56 + 3 * c)) (by omega)
        have d3 := qd_l4 (w (57 + 3 * c))
        refine g_aload_n 152 C dL_credits_151 rfl rfl rfl ?_
        refine g_iload 154 C dL_credits_152 rfl rfl ?_
        refine g_iconst 155 C (nb 0) dL_credits_154 rfl (by decide) ?_
        refine lc_creditOf 158 C gL_credits_X7_creditOf ⟨(Nat.le_of_ble_eq_true rfl), (Nat.le_of_ble_eq_true rfl)⟩ (Nat.le_of_ble_eq_true rfl) (k_c0 hA (by omega : c < w 1)) ⟨by dsimp only; omega, by dsimp only; omega⟩ dL_credits_155 rfl ?_
        refine ls_int 161 C hJ gL_credits_J4_append_bf812 ⟨(Nat.le_of_ble_eq_true rfl), (Nat.le_of_ble_eq_true rfl)⟩ (Nat.le_of_ble_eq_true rfl) hq2 (by omega) (by omega) ⟨by dsimp only; omega, by dsimp only; omega⟩ dL_credits_158 rfl (fun b3 κ3 hb3 hq3 => ?_)
        rw [← hb3]
        refine g_bipush 163 C (nb 42) dL_credits_161 rfl (by decide) ?_
        refine ls_chr 166 C hJ gL_credits_J4_append_cf468 ⟨(Nat.le_of_ble_eq_true rfl), (Nat.le_of_ble_eq_true rfl)⟩ (Nat.le_of_ble_eq_true rfl) hq3 (by omega) (by decide) ⟨by dsimp only; omega, by dsimp only; omega⟩ dL_credits_163 rfl (fun b4 κ4 hb4 hq4 => ?_)
        rw [← hb4]
        refine g_aload_n 167 C dL_credits_166 rfl rfl rfl ?_
        refine g_iload 169 C dL_credits_167 rfl rfl ?_
        refine g_iconst 170 C (nb 1) dL_credits_169 rfl (by decide) ?_
        refine lc_creditOf 173 C gL_credits_X7_creditOf ⟨(Nat.le_of_ble_eq_true rfl), (Nat.le_of_ble_eq_true rfl)⟩ (Nat.le_of_ble_eq_true rfl) (k_c1 hA (by omega : c < w 1)) ⟨by dsimp only; omega, by dsimp only; omega⟩ dL_credits_170 rfl ?_
        refine ls_int 176 C hJ gL_credits_J4_append_bf812 ⟨(Nat.le_of_ble_eq_true rfl), (Nat.le_of_ble_eq_true rfl)⟩ (Nat.le_of_ble_eq_true rfl) hq4 (by omega) (by omega) ⟨by dsimp only; omega, by dsimp only; omega⟩ dL_credits_173 rfl (fun b5 κ5 hb5 hq5 => ?_)
        rw [← hb5]
        refine g_bipush 178 C (nb 64) dL_credits_176 rfl (by decide) ?_
        refine ls_chr 181 C hJ gL_credits_J4_append_cf468 ⟨(Nat.le_of_ble_eq_true rfl), (Nat.le_of_ble_eq_true rfl)⟩ (Nat.le_of_ble_eq_true rfl) hq5 (by omega) (by decide) ⟨by dsimp only; omega, by dsimp only; omega⟩ dL_credits_178 rfl (fun b6 κ6 hb6 hq6 => ?_)
        rw [← hb6]
        refine g_aload_n 182 C dL_credits_181 rfl rfl rfl ?_
        refine g_iload 184 C dL_credits_182 rfl rfl ?_
        refine g_iconst 185 C (nb 2) dL_credits_184 rfl (by decide) ?_
        refine lc_creditOf 188 C gL_credits_X7_creditOf ⟨(Nat.le_of_ble_eq_true rfl), (Nat.le_of_ble_eq_true rfl)⟩ (Nat.le_of_ble_eq_true rfl) (k_c2 hA (by omega : c < w 1)) ⟨by dsimp only; omega, by dsimp only; omega⟩ dL_credits_185 rfl ?_
        refine ls_int 191 C hJ gL_credits_J4_append_bf812 ⟨(Nat.le_of_ble_eq_true rfl), (Nat.le_of_ble_eq_true rfl)⟩ (Nat.le_of_ble_eq_true rfl) hq6 (by omega) (by omega) ⟨by dsimp only; omega, by dsimp only; omega⟩ dL_credits_188 rfl (fun b7 κ7 hb7 hq7 => ?_)
        rw [← hb7]
        refine g_pop 192 C dL_credits_191 rfl rfl ?_
        refine g_aload_n 193 C dL_credits_192 rfl rfl rfl ?_
        refine g_iload 195 C dL_credits_193 rfl rfl ?_
        obtain ⟨rr, hr1, hr2, hr3⟩ := rk_next1 hA hc
        refine lc_next 198 C gL_credits_X7_next ⟨(Nat.le_of_ble_eq_true rfl), (Nat.le_of_ble_eq_true rfl)⟩ (Nat.le_of_ble_eq_true rfl) hr2 ⟨by dsimp only; omega, by dsimp only; omega⟩ dL_credits_195 rfl ?_
        refine g_istore 200 C [(10, .int (nb rr)), (9, .int (nb (w (57 + 3 * c) - w 0))), (8, .int (nb c)), (7, .ref (b7 0)), (6, .int last), (1, .int (nb (w 1))), (2, .int (nb (w 0))), (3, .ref q1), (4, .ref q2), (5, .ref q3), (0, .ref (ad 0))] dL_credits_198 rfl (by decide) rfl ?_
        refine g_iload 202 C dL_credits_200 rfl rfl ?_
        have K := K272 b7 κ7 rr _ _ hr1 hr3 (show cells + 1 + 1 + 1 + 1 + 1 + 1 ≤ _ by omega) (show slots + 900 + 200 + 200 + 200 + 200 + 200 ≤ _ by omega) hq7
        rcases hl with ⟨hl0, hl1⟩ | ⟨hl0, lr, hl1, hl2, hl3⟩
        · skip
          subst hl1
          refine g_if_ge 205 209 C dL_credits_202 (by decide) rfl (T := none) (E := some ()) (v := ()) (if_pos (by decide)) (fun h => by cases h) (fun _ => ?_)
          refine g_iconst 206 C (nb 1) dL_credits_205 rfl (by decide) ?_
          refine g_goto 224 C dL_credits_206 (by decide) ?_
          refine g_istore 226 C [(11, .int (nb 1)), (10, .int (nb rr)), (9, .int (nb (w (57 + 3 * c) - w 0))), (8, .int (nb c)), (7, .ref (b7 0)), (6, .int (-1)), (1, .int (nb (w 1))), (2, .int (nb (w 0))), (3, .ref q1), (4, .ref q2), (5, .ref q3), (0, .ref (ad 0))] dL_credits_224 rfl (by decide) rfl ?_
          refine g_iload 228 C dL_credits_226 rfl rfl ?_
          refine g_if_eq 231 236 C dL_credits_228 (by decide) rfl (T := none) (E := some ()) (v := ()) (if_neg (by decide)) (fun h => by cases h) (fun _ => ?_)
          refine g_iload 233 C dL_credits_231 rfl rfl ?_
          refine g_goto 251 C dL_credits_233 (by decide) ?_
          refine g_istore 253 C [(11, .int (nb 1)), (10, .int (nb rr)), (9, .int (nb (w (57 + 3 * c) - w 0))), (8, .int (nb c)), (7, .ref (b7 0)), (6, .int (-1)), (1, .int (nb (w 1))), (2, .int (nb (w 0))), (3, .ref q1), (4, .ref q2), (5, .ref q3), (0, .ref (ad 0))] dL_credits_251 rfl (by decide) rfl ?_
          refine g_iload 255 C dL_credits_253 rfl rfl ?_
          refine g_if_lt 258 270 C dL_credits_255 (by decide) rfl (T := none) (E := some ()) (v := ()) (if_pos (by decide)) (fun h => by cases h) (fun _ => ?_)
          refine g_iload 260 C dL_credits_258 rfl rfl ?_
          refine g_if_ne 263 272 C dL_credits_260 (by decide) rfl (T := some ()) (E := none) (v := ()) (if_neg (by decide)) (fun _ => ?_) (fun h => by cases h)
          refine g_lv (lv2 := [(10, .int (nb rr)), (9, .int (nb (w (57 + 3 * c) - w 0))), (8, .int (nb c)), (7, .ref (b7 0)), (6, .int (-1)), (1, .int (nb (w 1))), (2, .int (nb (w 0))), (3, .ref q1), (4, .ref q2), (5, .ref q3), (0, .ref (ad 0))]) [1, 2, 3, 4, 5, 6, 7, 8, 9, 10, 11] rfl ?_
          exact K
        · skip
          subst hl2
          have ho : go_B w lr rr = true := rk_next (rk_B w) hl1 hr1 (by omega)
          unfold go_B at ho
          rw [decide_eq_true_eq] at ho
          obtain ⟨x1, x2, x3, x4, x5⟩ := hJ6 rr hr1
          obtain ⟨y1, y2, y3, y4, y5⟩ := hJ6 lr hl1
          refine g_if_ge 205 209 C dL_credits_202 (by decide) rfl (T := some ()) (E := none) (v := ()) (if_neg (nb_nneg (by omega))) (fun _ => ?_) (fun h => by cases h)
          refine g_aload_n 210 C dL_credits_209 rfl rfl rfl ?_
          refine g_iload 212 C dL_credits_210 rfl rfl ?_
          refine g_iconst 213 C (nb 2) dL_credits_212 rfl (by decide) ?_
          refine lc_creditOf 216 C gL_credits_X7_creditOf ⟨(Nat.le_of_ble_eq_true rfl), (Nat.le_of_ble_eq_true rfl)⟩ (Nat.le_of_ble_eq_true rfl) (k_c2 hA (by omega : rr < w 1)) ⟨by dsimp only; omega, by dsimp only; omega⟩ dL_credits_213 rfl ?_
          refine g_aload_n 217 C dL_credits_216 rfl rfl rfl ?_
          refine g_iload 219 C dL_credits_217 rfl rfl ?_
          refine g_iconst 220 C (nb 2) dL_credits_219 rfl (by decide) ?_
          refine lc_creditOf 223 C gL_credits_X7_creditOf ⟨(Nat.le_of_ble_eq_true rfl), (Nat.le_of_ble_eq_true rfl)⟩ (Nat.le_of_ble_eq_true rfl) (k_c2 hA (by omega : lr < w 1)) ⟨by dsimp only; omega, by dsimp only; omega⟩ dL_credits_220 rfl ?_
          refine g_isub 224 C dL_credits_223 rfl ?_
          by_cases e1 : w (57 + 3 * lr) = w (57 + 3 * rr)
          · skip
            refine g_top (v := (nb 0)) (by rw [e1, nb_sub (Nat.le_refl _), Nat.sub_self]) ?_
            refine g_istore 226 C [(11, .int (nb 0)), (10, .int (nb rr)), (9, .int (nb (w (57 + 3 * c) - w 0))), (8, .int (nb c)), (7, .ref (b7 0)), (6, .int (nb lr)), (1, .int (nb (w 1))), (2, .int (nb (w 0))), (3, .ref q1), (4, .ref q2), (5, .ref q3), (0, .ref (ad 0))] dL_credits_224 rfl (by decide) rfl ?_
            refine g_iload 228 C dL_credits_226 rfl rfl ?_
            refine g_if_eq 231 236 C dL_credits_228 (by decide) rfl (T := some ()) (E := none) (v := ()) (if_pos rfl) (fun _ => ?_) (fun h => by cases h)
            refine g_aload_n 237 C dL_credits_236 rfl rfl rfl ?_
            refine g_iload 239 C dL_credits_237 rfl rfl ?_
            refine g_iconst 240 C (nb 1) dL_credits_239 rfl (by decide) ?_
            refine lc_creditOf 243 C gL_credits_X7_creditOf ⟨(Nat.le_of_ble_eq_true rfl), (Nat.le_of_ble_eq_true rfl)⟩ (Nat.le_of_ble_eq_true rfl) (k_c1 hA (by omega : lr < w 1)) ⟨by dsimp only; omega, by dsimp only; omega⟩ dL_credits_240 rfl ?_
            refine g_aload_n 244 C dL_credits_243 rfl rfl rfl ?_
            refine g_iload 246 C dL_credits_244 rfl rfl ?_
            refine g_iconst 247 C (nb 1) dL_credits_246 rfl (by decide) ?_
            refine lc_creditOf 250 C gL_credits_X7_creditOf ⟨(Nat.le_of_ble_eq_true rfl), (Nat.le_of_ble_eq_true rfl)⟩ (Nat.le_of_ble_eq_true rfl) (k_c1 hA (by omega : rr < w 1)) ⟨by dsimp only; omega, by dsimp only; omega⟩ dL_credits_247 rfl ?_
            refine g_isub 251 C dL_credits_250 rfl ?_
            refine g_top (v := (nb (w (56 + 3 * lr) - w (56 + 3 * rr)))) (nb_sub (by omega)).symm ?_
            refine g_istore 253 C [(11, .int (nb (w (56 + 3 * lr) - w (56 + 3 * rr)))), (10, .int (nb rr)), (9, .int (nb (w (57 + 3 * c) - w 0))), (8, .int (nb c)), (7, .ref (b7 0)), (6, .int (nb lr)), (1, .int (nb (w 1))), (2, .int (nb (w 0))), (3, .ref q1), (4, .ref q2), (5, .ref q3), (0, .ref (ad 0))] dL_credits_251 rfl (by decide) rfl ?_
            refine g_iload 255 C dL_credits_253 rfl rfl ?_
            refine g_if_lt 258 270 C dL_credits_255 (by decide) rfl (T := none) (E := some ()) (v := ()) (if_pos (nb_0le (by omega))) (fun h => by cases h) (fun _ => ?_)
            refine g_iload 260 C dL_credits_258 rfl rfl ?_
            by_cases e2 : w (56 + 3 * lr) - w (56 + 3 * rr) = 0
            · skip
              refine g_if_ne 263 272 C dL_credits_260 (by decide) rfl (T := none) (E := some ()) (v := ()) (if_pos (by rw [e2]; rfl)) (fun h => by cases h) (fun _ => ?_)
              refine g_iload 265 C dL_credits_263 rfl rfl ?_
              refine g_iload 267 C dL_credits_265 rfl rfl ?_
              refine g_icmp_ge 270 272 C dL_credits_267 (by decide) rfl (T := some ()) (E := none) (v := ()) (if_neg (nb_lt_f (by omega) (by omega))) (fun _ => ?_) (fun h => by cases h)
              refine g_lv (lv2 := [(10, .int (nb rr)), (9, .int (nb (w (57 + 3 * c) - w 0))), (8, .int (nb c)), (7, .ref (b7 0)), (6, .int (nb lr)), (1, .int (nb (w 1))), (2, .int (nb (w 0))), (3, .ref q1), (4, .ref q2), (5, .ref q3), (0, .ref (ad 0))]) [1, 2, 3, 4, 5, 6, 7, 8, 9, 10, 11] rfl ?_
              exact K
            · skip
              refine g_if_ne 263 272 C dL_credits_260 (by decide) rfl (T := some ()) (E := none) (v := ()) (if_neg (nb_ne (b := 0) e2 (by omega) (by decide))) (fun _ => ?_) (fun h => by cases h)
              refine g_lv (lv2 := [(10, .int (nb rr)), (9, .int (nb (w (57 + 3 * c) - w 0))), (8, .int (nb c)), (7, .ref (b7 0)), (6, .int (nb lr)), (1, .int (nb (w 1))), (2, .int (nb (w 0))), (3, .ref q1), (4, .ref q2), (5, .ref q3), (0, .ref (ad 0))]) [1, 2, 3, 4, 5, 6, 7, 8, 9, 10, 11] rfl ?_
              exact K
          · skip
            refine g_top (v := (nb (w (57 + 3 * rr) - w (57 + 3 * lr)))) (nb_sub (by omega)).symm ?_
            refine g_istore 226 C [(11, .int (nb (w (57 + 3 * rr) - w (57 + 3 * lr)))), (10, .int (nb rr)), (9, .int (nb (w (57 + 3 * c) - w 0))), (8, .int (nb c)), (7, .ref (b7 0)), (6, .int (nb lr)), (1, .int (nb (w 1))), (2, .int (nb (w 0))), (3, .ref q1), (4, .ref q2), (5, .ref q3), (0, .ref (ad 0))] dL_credits_224 rfl (by decide) rfl ?_
            refine g_iload 228 C dL_credits_226 rfl rfl ?_
            refine g_if_eq 231 236 C dL_credits_228 (by decide) rfl (T := none) (E := some ()) (v := ()) (if_neg (nb_ne (b := 0) (by omega) (by omega) (by decide))) (fun h => by cases h) (fun _ => ?_)
            refine g_iload 233 C dL_credits_231 rfl rfl ?_
            refine g_goto 251 C dL_credits_233 (by decide) ?_
            refine g_istore 253 C [(11, .int (nb (w (57 + 3 * rr) - w (57 + 3 * lr)))), (10, .int (nb rr)), (9, .int (nb (w (57 + 3 * c) - w 0))), (8, .int (nb c)), (7, .ref (b7 0)), (6, .int (nb lr)), (1, .int (nb (w 1))), (2, .int (nb (w 0))), (3, .ref q1), (4, .ref q2), (5, .ref q3), (0, .ref (ad 0))] dL_credits_251 rfl (by decide) rfl ?_
            refine g_iload 255 C dL_credits_253 rfl rfl ?_
            refine g_if_lt 258 270 C dL_credits_255 (by decide) rfl (T := none) (E := some ()) (v := ()) (if_pos (nb_0le (by omega))) (fun h => by cases h) (fun _ => ?_)
            refine g_iload 260 C dL_credits_258 rfl rfl ?_
            refine g_if_ne 263 272 C dL_credits_260 (by decide) rfl (T := some ()) (E := none) (v := ()) (if_neg (nb_ne (b := 0) (by omega) (by omega) (by decide))) (fun _ => ?_) (fun h => by cases h)
            refine g_lv (lv2 := [(10, .int (nb rr)), (9, .int (nb (w (57 + 3 * c) - w 0))), (8, .int (nb c)), (7, .ref (b7 0)), (6, .int (nb lr)), (1, .int (nb (w 1))), (2, .int (nb (w 0))), (3, .ref q1), (4, .ref q2), (5, .ref q3), (0, .ref (ad 0))]) [1, 2, 3, 4, 5, 6, 7, 8, 9, 10, 11] rfl ?_
            exact K
      by_cases e0 : c = 0
      · skip
        refine g_if_ne 141 146 C dL_credits_138 (by decide) rfl (T := none) (E := some ()) (v := ()) (if_pos (by rw [e0]; rfl)) (fun h => by cases h) (fun _ => ?_)
        refine g_ldcS 143 C hLL.1.1 dL_credits_141 rfl ?_
        refine g_goto 148 C dL_credits_143 (by decide) ?_
        refine ls_con 151 C hJ gL_credits_J4_append_15ec4 ⟨(Nat.le_of_ble_eq_true rfl), (Nat.le_of_ble_eq_true rfl)⟩ (Nat.le_of_ble_eq_true rfl) (k := 8) (by decide) (g := fun _ => 0) hq (fun j hj => absurd hj (Nat.not_lt_zero j)) (by show (lz_s w c).1 + 0 ≤ 90; omega) ⟨by dsimp only; omega, by dsimp only; omega⟩ dL_credits_148 rfl (fun b2 κ2 hb2 hq2 => ?_)
        rw [← hb2]
        exact K151 b2 κ2 (by unfold lz_p; rw [if_neg (by omega)]; exact k_cat0 hq2)
      · skip
        refine g_if_ne 141 146 C dL_credits_138 (by decide) rfl (T := some ()) (E := none) (v := ()) (if_neg (nb_ne (b := 0) e0 (by omega) (by decide))) (fun _ => ?_) (fun h => by cases h)
        refine g_ldcS 148 C hLL.1.2 dL_credits_146 rfl ?_
        refine ls_con 151 C hJ gL_credits_J4_append_15ec4 ⟨(Nat.le_of_ble_eq_true rfl), (Nat.le_of_ble_eq_true rfl)⟩ (Nat.le_of_ble_eq_true rfl) (k := 9) (by decide) (g := fun _ => 32) hq (fun j hj => ⟨by decide, by rw [show j = 0 from by have : j < 1 := hj; omega]; rfl⟩) (by show (lz_s w c).1 + 1 ≤ 90; omega) ⟨by dsimp only; omega, by dsimp only; omega⟩ dL_credits_148 rfl (fun b2 κ2 hb2 hq2 => ?_)
        rw [← hb2]
        exact K151 b2 κ2 (by unfold lz_p; rw [if_pos (by omega)]; exact k_cat hq2)
  have L2 : ∀ (b : Nat → Nat) (κ : sg_S) (last : Int32) (cells slots : Nat), cells ≤ 53 → slots ≤ 15240 → sg_G p l e { frames := 8, cells := 210, slots := 44000, locals := 240 } s m args below meth cd D (va_A (sl_w Y ad σ []) s.heap.size) 12 cells slots Q 340 [(8, .int (nb 5)), (7, .ref (b 0)), (6, .int last), (1, .int (nb (w 1))), (2, .int (nb (w 0))), (3, .ref q1), (4, .ref q2), (5, .ref q3), (0, .ref (ad 0))] [] (sl_w Y ad σ (ww_J4 Y b κ ++ ca_W Y q1 q2 q3 (ci_1 w (w 1)) (ci_2 w (w 1)) (ci_3 w (w 1)))) → ∀ (d t : Nat), t + d = 5 → sg_G p l e { frames := 8, cells := 210, slots := 44000, locals := 240 } s m args below meth cd D (va_A (sl_w Y ad σ []) s.heap.size) 12 cells slots Q 285 [(8, .int (nb t)), (7, .ref (b 0)), (6, .int last), (1, .int (nb (w 1))), (2, .int (nb (w 0))), (3, .ref q1), (4, .ref q2), (5, .ref q3), (0, .ref (ad 0))] [] (sl_w Y ad σ (ww_J4 Y b κ ++ ca_W Y q1 q2 q3 (ci_1 w (w 1)) (ci_2 w (w 1)) (ci_3 w (w 1)))) := by
    intro b κ last cells slots h2 h3 hend d
    induction d with
    | zero =>
      intro t h1
      refine g_iload 287 C dL_credits_285 rfl rfl ?_
      refine g_iconst 288 C (nb 5) dL_credits_287 rfl (by decide) ?_
      refine g_icmp_ge 291 340 C dL_credits_288 (by decide) rfl (T := some ()) (E := none) (v := ()) (if_neg (nb_lt_f (by omega) (by omega))) (fun _ => ?_) (fun h => by cases h)
      have ht : t = 5 := by omega
      subst ht
      exact hend
    | succ d ih =>
      intro t h1
      refine g_iload 287 C dL_credits_285 rfl rfl ?_
      refine g_iconst 288 C (nb 5) dL_credits_287 rfl (by decide) ?_
      refine g_icmp_ge 291 340 C dL_credits_288 (by decide) rfl (T := none) (E := some ()) (v := ()) (if_pos (nb_lt_t (by omega) (by omega))) (fun h => by cases h) (fun _ => ?_)
      refine g_aload_n 292 C dL_credits_291 rfl rfl rfl ?_
      refine g_iload 294 C dL_credits_292 rfl rfl ?_
      refine lc_owes 297 C gL_credits_X7_owes ⟨(Nat.le_of_ble_eq_true rfl), (Nat.le_of_ble_eq_true rfl)⟩ (Nat.le_of_ble_eq_true rfl) (ce_owes hA (by omega : t < 5)) ⟨by dsimp only; omega, by dsimp only; omega⟩ dL_credits_294 rfl ?_
      refine g_aload_n 298 C dL_credits_297 rfl rfl rfl ?_
      refine g_iload 300 C dL_credits_298 rfl rfl ?_
      refine ca_get 301 C 4 (g := ci_1 w (w 1)) (N := 5) rfl (by omega) (by decide) dL_credits_300 rfl ?_
      refine g_icmp_ne 304 332 C dL_credits_301 (by decide) rfl (T := none) (E := some ()) (v := ()) (if_pos rfl) (fun h => by cases h) (fun _ => ?_)
      refine g_aload_n 305 C dL_credits_304 rfl rfl rfl ?_
      refine g_iload 307 C dL_credits_305 rfl rfl ?_
      refine lc_owesAgain 310 C gL_credits_X7_owesAgain ⟨(Nat.le_of_ble_eq_true rfl), (Nat.le_of_ble_eq_true rfl)⟩ (Nat.le_of_ble_eq_true rfl) (ce_owes2 hA (by omega : t < 5)) ⟨by dsimp only; omega, by dsimp only; omega⟩ dL_credits_307 rfl ?_
      refine g_aload_n 311 C dL_credits_310 rfl rfl rfl ?_
      refine g_iload 313 C dL_credits_311 rfl rfl ?_
      refine ca_get 314 C 4 (g := ci_1 w (w 1)) (N := 5) rfl (by omega) (by decide) dL_credits_313 rfl ?_
      refine g_icmp_ne 317 332 C dL_credits_314 (by decide) rfl (T := none) (E := some ()) (v := ()) (if_pos rfl) (fun h => by cases h) (fun _ => ?_)
      refine g_aload_n 318 C dL_credits_317 rfl rfl rfl ?_
      refine g_iload 320 C dL_credits_318 rfl rfl ?_
      refine g_iconst 321 C (nb 4) dL_credits_320 rfl (by decide) ?_
      refine lc_townOf 324 C gL_credits_X7_townOf ⟨(Nat.le_of_ble_eq_true rfl), (Nat.le_of_ble_eq_true rfl)⟩ (Nat.le_of_ble_eq_true rfl) (ce_town4 hA (by omega : t < 5)) ⟨by dsimp only; omega, by dsimp only; omega⟩ dL_credits_321 rfl ?_
      refine g_aload 326 C dL_credits_324 rfl rfl ?_
      refine g_iload 328 C dL_credits_326 rfl rfl ?_
      refine ca_get 329 C 3 (g := ci_2 w (w 1)) (N := 5) rfl (by omega) (by decide) dL_credits_328 rfl ?_
      refine g_icmp_eq 332 334 C dL_credits_329 (by decide) rfl (T := some ()) (E := none) (v := ()) (if_pos rfl) (fun _ => ?_) (fun h => by cases h)
      refine g_iinc 337 C 0 (nb (t + 1)) [(8, .int (nb (t + 1))), (7, .ref (b 0)), (6, .int last), (1, .int (nb (w 1))), (2, .int (nb (w 0))), (3, .ref q1), (4, .ref q2), (5, .ref q3), (0, .ref (ad 0))] dL_credits_334 rfl rfl (nb_succ t) (by decide) rfl ?_
      refine g_goto 285 C dL_credits_337 (by decide) ?_
      refine g_lv (lv2 := [(8, .int (nb (t + 1))), (7, .ref (b 0)), (6, .int last), (1, .int (nb (w 1))), (2, .int (nb (w 0))), (3, .ref q1), (4, .ref q2), (5, .ref q3), (0, .ref (ad 0))]) [0, 1, 2, 3, 4, 5, 6, 7, 8] rfl ?_
      exact ih (t + 1) (by omega)
  have L3 : ∀ (b : Nat → Nat) (κ : sg_S) (last : Int32) (cells slots : Nat), cells ≤ 53 → slots ≤ 15240 → sg_G p l e { frames := 8, cells := 210, slots := 44000, locals := 240 } s m args below meth cd D (va_A (sl_w Y ad σ []) s.heap.size) 12 cells slots Q 372 [(8, .int (nb 7)), (7, .ref (b 0)), (6, .int last), (1, .int (nb (w 1))), (2, .int (nb (w 0))), (3, .ref q1), (4, .ref q2), (5, .ref q3), (0, .ref (ad 0))] [] (sl_w Y ad σ (ww_J4 Y b κ ++ ca_W Y q1 q2 q3 (ci_1 w (w 1)) (ci_2 w (w 1)) (ci_3 w (w 1)))) → ∀ (d t : Nat), t + d = 7 → sg_G p l e { frames := 8, cells := 210, slots := 44000, locals := 240 } s m args below meth cd D (va_A (sl_w Y ad σ []) s.heap.size) 12 cells slots Q 343 [(8, .int (nb t)), (7, .ref (b 0)), (6, .int last), (1, .int (nb (w 1))), (2, .int (nb (w 0))), (3, .ref q1), (4, .ref q2), (5, .ref q3), (0, .ref (ad 0))] [] (sl_w Y ad σ (ww_J4 Y b κ ++ ca_W Y q1 q2 q3 (ci_1 w (w 1)) (ci_2 w (w 1)) (ci_3 w (w 1)))) := by
    intro b κ last cells slots h2 h3 hend d
    induction d with
    | zero =>
      intro t h1
      refine g_iload 345 C dL_credits_343 rfl rfl ?_
      refine g_bipush 347 C (nb 7) dL_credits_345 rfl (by decide) ?_
      refine g_icmp_ge 350 372 C dL_credits_347 (by decide) rfl (T := some ()) (E := none) (v := ()) (if_neg (nb_lt_f (by omega) (by omega))) (fun _ => ?_) (fun h => by cases h)
      have ht : t = 7 := by omega
      subst ht
      exact hend
    | succ d ih =>
      intro t h1
      refine g_iload 345 C dL_credits_343 rfl rfl ?_
      refine g_bipush 347 C (nb 7) dL_credits_345 rfl (by decide) ?_
      refine g_icmp_ge 350 372 C dL_credits_347 (by decide) rfl (T := none) (E := some ()) (v := ()) (if_pos (nb_lt_t (by omega) (by omega))) (fun h => by cases h) (fun _ => ?_)
      refine g_aload_n 351 C dL_credits_350 rfl rfl rfl ?_
      refine g_iload 353 C dL_credits_351 rfl rfl ?_
      refine lc_due 356 C gL_credits_X7_due ⟨(Nat.le_of_ble_eq_true rfl), (Nat.le_of_ble_eq_true rfl)⟩ (Nat.le_of_ble_eq_true rfl) (ce_due hA (by omega : t ≤ 6)) ⟨by dsimp only; omega, by dsimp only; omega⟩ dL_credits_353 rfl ?_
      refine g_aload 358 C dL_credits_356 rfl rfl ?_
      refine g_iload 360 C dL_credits_358 rfl rfl ?_
      refine ca_get 361 C 2 (g := ci_3 w (w 1)) (N := 7) rfl (by omega) (by decide) dL_credits_360 rfl ?_
      refine g_icmp_eq 364 366 C dL_credits_361 (by decide) rfl (T := some ()) (E := none) (v := ()) (if_pos rfl) (fun _ => ?_) (fun h => by cases h)
      refine g_iinc 369 C 0 (nb (t + 1)) [(8, .int (nb (t + 1))), (7, .ref (b 0)), (6, .int last), (1, .int (nb (w 1))), (2, .int (nb (w 0))), (3, .ref q1), (4, .ref q2), (5, .ref q3), (0, .ref (ad 0))] dL_credits_366 rfl rfl (nb_succ t) (by decide) rfl ?_
      refine g_goto 343 C dL_credits_369 (by decide) ?_
      refine g_lv (lv2 := [(8, .int (nb (t + 1))), (7, .ref (b 0)), (6, .int last), (1, .int (nb (w 1))), (2, .int (nb (w 0))), (3, .ref q1), (4, .ref q2), (5, .ref q3), (0, .ref (ad 0))]) [0, 1, 2, 3, 4, 5, 6, 7, 8] rfl ?_
      exact ih (t + 1) (by omega)
  refine L1 (fun b κ last cells slots h2 h3 hq => ?_) (w 1) 0 b0 iJ4 (-1) _ _ (by omega) (Or.inl ⟨rfl, rfl⟩) (by omega) (by omega) (k_nil _)
  refine g_iconst 283 C (nb 0) dL_credits_282 rfl (by decide) ?_
  refine g_istore 285 C [(8, .int (nb 0)), (7, .ref (b 0)), (6, .int last), (1, .int (nb (w 1))), (2, .int (nb (w 0))), (3, .ref q1), (4, .ref q2), (5, .ref q3), (0, .ref (ad 0))] dL_credits_283 rfl (by decide) rfl ?_
  refine g_lv (lv2 := [(8, .int (nb 0)), (7, .ref (b 0)), (6, .int last), (1, .int (nb (w 1))), (2, .int (nb (w 0))), (3, .ref q1), (4, .ref q2), (5, .ref q3), (0, .ref (ad 0))]) [0, 1, 2, 3, 4, 5, 6, 7, 8] rfl ?_
  refine L2 b κ last cells slots h2 h3 ?_ 5 0 (by omega)
  refine g_iconst 341 C (nb 0) dL_credits_340 rfl (by decide) ?_
  refine g_istore 343 C [(8, .int (nb 0)), (7, .ref (b 0)), (6, .int last), (1, .int (nb (w 1))), (2, .int (nb (w 0))), (3, .ref q1), (4, .ref q2), (5, .ref q3), (0, .ref (ad 0))] dL_credits_341 rfl (by decide) rfl ?_
  refine g_lv (lv2 := [(8, .int (nb 0)), (7, .ref (b 0)), (6, .int last), (1, .int (nb (w 1))), (2, .int (nb (w 0))), (3, .ref q1), (4, .ref q2), (5, .ref q3), (0, .ref (ad 0))]) [0, 1, 2, 3, 4, 5, 6, 7, 8] rfl ?_
  refine L3 b κ last cells slots h2 h3 ?_ 7 0 (by omega)
  · skip
    refine g_aload_n 373 C dL_credits_372 rfl rfl rfl ?_
    refine g_aload_n 374 C dL_credits_373 rfl rfl rfl ?_
    refine lw_lines 377 C hJ gL_credits_X7_writeCredits ⟨(Nat.le_of_ble_eq_true rfl), (Nat.le_of_ble_eq_true rfl)⟩ (Nat.le_of_ble_eq_true rfl) hA (by omega) ⟨by dsimp only; omega, by dsimp only; omega⟩ dL_credits_374 rfl (fun ad3 σ3 g0 g1 g2 g3 g4 => ?_)
    rw [← g0]
    refine lk_line 380 C hJ hB gL_credits_L_line ⟨(Nat.le_of_ble_eq_true rfl), (Nat.le_of_ble_eq_true rfl)⟩ (Nat.le_of_ble_eq_true rfl) g3 g4 ⟨by dsimp only; omega, by dsimp only; omega⟩ dL_credits_377 rfl (fun a v bt hbt => ?_)
    refine g_aload 382 C dL_credits_380 rfl rfl ?_
    refine ls_perm (k_sw _ _ _) ?_
    refine ls_perm (X2 := ww_J4 Y b κ ++ (ww_S Y a v 0 0 (lz_s w (w 1)).1 bt ++ (ca_W Y q1 q2 q3 (ci_1 w (w 1)) (ci_2 w (w 1)) (ci_3 w (w 1))))) (List.Perm.of_eq (List.append_assoc _ _ _)) ?_
    refine ls_toS 385 C hJ hB gL_credits_J4_toString_0e30d ⟨(Nat.le_of_ble_eq_true rfl), (Nat.le_of_ble_eq_true rfl)⟩ (Nat.le_of_ble_eq_true rfl) (qk_of hq) ⟨by dsimp only; omega, by dsimp only; omega⟩ dL_credits_382 rfl (fun a2 v2 bt2 hbt2 => ?_)
    refine ls_perm (k_sw _ _ _) ?_
    refine ls_eq 388 C hJ gL_credits_J0_equals_9ea2d ⟨(Nat.le_of_ble_eq_true rfl), (Nat.le_of_ble_eq_true rfl)⟩ (Nat.le_of_ble_eq_true rfl) (by omega) (fun i hi => (hbt i hi).2.trans (hbt2 i hi).2.symm) ⟨by dsimp only; omega, by dsimp only; omega⟩ dL_credits_385 rfl ?_
    refine g_if_eq 391 425 C dL_credits_388 (by decide) rfl (T := none) (E := some ()) (v := ()) (if_neg (by decide)) (fun h => by cases h) (fun _ => ?_)
    refine g_aload_n 392 C dL_credits_391 rfl rfl rfl ?_
    refine g_iload_n 393 C dL_credits_392 rfl rfl rfl ?_
    refine lc_next 396 C gL_credits_X7_next ⟨(Nat.le_of_ble_eq_true rfl), (Nat.le_of_ble_eq_true rfl)⟩ (Nat.le_of_ble_eq_true rfl) (rk_next2 g1) ⟨by dsimp only; omega, by dsimp only; omega⟩ dL_credits_393 rfl ?_
    refine g_iconst 397 C (-1) dL_credits_396 rfl (by decide) ?_
    refine g_icmp_ne 400 425 C dL_credits_397 (by decide) rfl (T := none) (E := some ()) (v := ()) (if_pos rfl) (fun h => by cases h) (fun _ => ?_)
    refine g_aload_n 401 C dL_credits_400 rfl rfl rfl ?_
    refine g_iload_n 402 C dL_credits_401 rfl rfl rfl ?_
    refine g_iconst 403 C (nb 0) dL_credits_402 rfl (by decide) ?_
    refine lc_creditOf 406 C gL_credits_X7_creditOf ⟨(Nat.le_of_ble_eq_true rfl), (Nat.le_of_ble_eq_true rfl)⟩ (Nat.le_of_ble_eq_true rfl) (ce_crN g1 _) ⟨by dsimp only; omega, by dsimp only; omega⟩ dL_credits_403 rfl ?_
    refine g_iconst 407 C (-1) dL_credits_406 rfl (by decide) ?_
    refine g_icmp_ne 410 425 C dL_credits_407 (by decide) rfl (T := none) (E := some ()) (v := ()) (if_pos rfl) (fun h => by cases h) (fun _ => ?_)
    refine g_aload_n 411 C dL_credits_410 rfl rfl rfl ?_
    refine g_bipush 413 C (nb 7) dL_credits_411 rfl (by decide) ?_
    refine lc_due 416 C gL_credits_X7_due ⟨(Nat.le_of_ble_eq_true rfl), (Nat.le_of_ble_eq_true rfl)⟩ (Nat.le_of_ble_eq_true rfl) (ce_due7 σ3) ⟨by dsimp only; omega, by dsimp only; omega⟩ dL_credits_413 rfl ?_
    refine g_bipush 418 C (-2) dL_credits_416 rfl (by decide) ?_
    refine g_icmp_ne 421 425 C dL_credits_418 (by decide) rfl (T := none) (E := some ()) (v := ()) (if_pos rfl) (fun h => by cases h) (fun _ => ?_)
    refine g_iconst 422 C (nb 1) dL_credits_421 rfl (by decide) ?_
    refine g_goto 426 C dL_credits_422 (by decide) ?_
    refine ls_drop (X2 := []) _ (by rw [List.append_nil]) ?_
    refine g_widen 210 44000 (by omega) (by omega) ?_
    exact g_iretX (P := (fun (r : Int32) (u : (Nat → Nat) × sg_S) => r = 1 ∧ u.1 0 = ad 0 ∧ cl_A m0 w c0 u.2 ∧ cl_Q σ u.2)) (w' := (fun u => sl_w Y u.1 u.2 [])) (ad3, σ3) C hr rfl hQ hsz dL_credits_426 ⟨rfl, g0, g1, cl_Qw g2⟩ rfl
section SLC2
variable {p : Program} {l : Launch} {e : Env} {R : Room} {s : State} {m : MethodId} {args : Array Value} {below : List Frame} {meth : Method} {c : Code} {D : va_G} {Y : Nat → ClassId} {Z : (Nat → Prop) → State → Heap → Prop} {A : Nat → Prop} {nL : Nat} {cells slots : Nat} {Q : State → Prop} {cc : ByteArray} {own : String} {Ts : List Cond} {pc : Nat} {lv : List (Nat × Value)} {st : List Value} {X : va_W} {ad b : Nat → Nat} {σ κ : sg_S} {index : Nat} {jK jV jT : Nat → Nat} {f : Nat → Nat} {n0 : Nat} {m0 c0 : Nat} {w : Nat → Nat}
theorem lk_credits (n : Nat) (C : sg_C p R s m args meth c cc nL own Ts D Y Z A) (hJ : sg_ZJ Z jK jV jT) (hB : sg_Zb Z) (hL : sg_ZL Z jK) (hA : cl_A m0 w c0 σ) (hm : m0 ≤ 31) (hG : GoodIn Ts (va_wsS own index yL_credits wsL_credits)) (hR : 9 ≤ R.frames ∧ 271 ≤ R.locals) (hroom : (st.map fun v => v.category).sum ≤ 8) (hcs : cells + 210 ≤ R.cells ∧ slots + 44000 ≤ R.slots) (hdg : decode cc pc = .ok (.invokestatic index, 3)) (hn : pc + 3 = n) (kk : ∀ (ad2 : Nat → Nat) (σ2 : sg_S), ad2 0 = ad 0 → cl_A m0 w c0 σ2 → cl_Q σ σ2 → sg_G p l e R s m args below meth c D A nL (cells + 210) (slots + 44000) Q n lv (.int 1 :: st) (sl_w Y ad2 σ2 X)) : sg_G p l e R s m args below meth c D A nL cells slots Q pc lv (.ref (ad 0) :: st) (sl_w Y ad σ X) := by
  refine g_XSi n C (As := [.ref (ad 0)]) (st := st) (n0 := 1) (k_credits l C.2.2.2.2.2.2.2.1 hJ hB hL hA hm) hG ⟨by decide +kernel, by decide +kernel, rfl⟩ rfl hR (sl_cutL Y ad σ [] X (fun u : (Nat → Nat) × sg_S => u.1) (fun u => u.2) (fun _ => [])) rfl hroom hcs hdg hn rfl (fun r u hu => ?_)
  obtain ⟨rfl, h0, h1, h2⟩ := hu
  exact kk u.1 u.2 h0 h1 h2
end SLC2
