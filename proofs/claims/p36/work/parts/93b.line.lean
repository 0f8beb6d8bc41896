/-! THE LAW: a line -/
theorem ksL_line_iJ4 : ∀ w ∈ u_ws RJ4 TJ4 4, w ∈ wsL_line := by decide +kernel
theorem ksL_line_n1 : Cond.classLink RL 67 RJ4 ∈ wsL_line := by decide +kernel
theorem ksL_line_n2 : Cond.instantiable RJ4 4 ∈ wsL_line := by decide +kernel
theorem ksL_line_n3 : Cond.initialized RJ4 ∈ wsL_line := by decide +kernel
theorem ksL_line_n4 : Cond.methodLink RL 69 yJ4_init_da8c8 ∈ wsL_line := by decide +kernel
theorem ksL_line_n5 : Cond.instanceMethod yJ4_init_da8c8 ∈ wsL_line := by decide +kernel
theorem k_nil (f : Nat → Nat) : qb_I iJ4 0 f := ⟨16, ⟨by decide, rfl, rfl, fun i _ => ⟨0, by decide, rfl⟩⟩, by decide, rfl, fun i hi => absurd hi (by omega)⟩
theorem k_127 : ∀ c, c < 128 → ((nb c).toUInt32 % 65536).toInt32 = nb c := by decide +kernel
theorem k_gwu (f : Nat → Nat) (i : Nat) : gw_u f i (f i) = f := by
  funext k
  unfold gw_u
  by_cases e : k = i
  · rw [if_pos e, e]
  · rw [if_neg e]
section SLM
variable {p : Program} {l : Launch} {e : Env} {R : Room} {s : State} {m : MethodId} {args : Array Value} {below : List Frame} {meth : Method} {c : Code} {D : va_G} {Y : Nat → ClassId} {Z : (Nat → Prop) → State → Heap → Prop} {A : Nat → Prop} {nL : Nat} {cells slots : Nat} {Q : State → Prop} {cc : ByteArray} {own : String} {Ts : List Cond} {pc : Nat} {lv : List (Nat × Value)} {st : List Value} {X : va_W} {ad b : Nat → Nat} {σ κ : sg_S} {index : Nat} {jK jV jT : Nat → Nat} {f : Nat → Nat} {n0 : Nat}
theorem ls_new (n : Nat) (C : sg_C p R s m args meth c cc nL own Ts D Y Z A) (hJ : sg_ZJ Z jK jV jT) {i2 : Nat} (hin : ∀ w ∈ u_ws RJ4 TJ4 4, w ∈ Ts) (hcl : Cond.classLink own index RJ4 ∈ Ts) (hinst : Cond.instantiable RJ4 4 ∈ Ts) (hini : Cond.initialized RJ4 ∈ Ts) (hG : GoodIn Ts wsJ4_init_da8c8) (hlk : Cond.methodLink own i2 yJ4_init_da8c8 ∈ Ts) (him : Cond.instanceMethod yJ4_init_da8c8 ∈ Ts) (hR : 3 ≤ R.frames ∧ 53 ≤ R.locals) (hroom : ((Value.ref 0 :: st).map fun v => v.category).sum ≤ 8) (hcs : cells + 2 ≤ R.cells ∧ slots + 20 ≤ R.slots) (hd0 : decode cc pc = .ok (.new index, 3)) (hd1 : decode cc (pc + 3) = .ok (.dup, 1)) (hd2 : decode cc (pc + 4) = .ok (.invokespecial i2, 3)) (hn : pc + 7 = n) (kk : ∀ b : Nat → Nat, sg_G p l e R s m args below meth c D A nL (cells + 2) (slots + 20) Q n lv (.ref (b 0) :: st) (sl_w Y ad σ (ww_J4 Y b iJ4 ++ X))) : sg_G p l e R s m args below meth c D A nL cells slots Q pc lv st (sl_w Y ad σ X) := by
  refine g_new (pc + 3) C (C1 := RJ4) (T := TJ4) (N := 4) (ci := 1) [.null, .int 0, .int 0, .int 0] tyJ4 tyJ4_ok hin hcl hinst hini rfl (by decide +kernel) (by omega) (by omega) hd0 rfl (fun h0 => ?_)
  refine g_perm (w2 := sl_w Y ad σ ([(h0, .inr (1, [.null, .int 0, .int 0, .int 0]))] ++ X)) (by rw [sl_wE, sl_wE]; exact List.perm_append_comm) ?_
  refine g_dup (pc + 4) C hd1 rfl rfl ?_
  refine g_XIv n C (ret := none) (As := []) (st := .ref h0 :: st) (n0 := 0) (c_J4_init l C.2.2.2.2.2.2.2.1 hJ (h0 := h0)) hG hini hlk him rfl ⟨by decide, by decide, by decide +kernel⟩ rfl hR (sl_cutX Y ad σ _ X (fun u => ww_J4 Y u iJ4)) rfl hroom ⟨by omega, by omega⟩ hd2 (by omega) rfl (fun u hu => ?_)
  have hu : u 0 = h0 := hu
  have h := kk u
  rw [hu] at h
  exact h
end SLM
set_option maxHeartbeats 4000000 in
set_option maxRecDepth 100000 in
theorem k_line (l : Launch) {D : va_G} {Y : Nat → ClassId} {Z : (Nat → Prop) → State → Heap → Prop} (hZ : sg_Zok Z) {jK jV jT : Nat → Nat} (hJ : sg_ZJ Z jK jV jT) (hB : sg_Zb Z) {ad : Nat → Nat} {σ : sg_S} {n : Nat} {f : Nat → Nat} (hqn : qb_I (sg_e1 177 σ) n f) (hn : n ≤ 88) : sg_XR l yL_line wsL_line 7 210 (n + 4) (201 * n + 24) D Y Z [.ref (ad 0), .int (nb n)] (sl_w Y ad σ []) (fun (u : Nat × Nat × (Nat → Int32)) => ∀ j, j < n → f j ≤ 127 ∧ u.2.2 j = nb (f j)) (fun u => u.1) (fun u => sl_w Y ad σ (ww_S Y u.1 u.2.1 0 0 n u.2.2 ++ [])) := by
  intro sz
  refine sg_enterX (own := RL) (maxL := 4) (ret := (some (.object "java/lang/String"))) (cc := cL_line) (by decide +kernel) rfl rfl (Nat.le_of_ble_eq_true rfl) hZ ?_
  intro p e s m args below meth c C hr hin Q hQ hsz
  have hf : ∀ i, i < n → f i ≤ 127 := fun i hi => by
    obtain ⟨r, _, _, _, h⟩ := hqn
    exact (h i hi).1
  have Kl : ∀ (d i : Nat) (b : Nat → Nat) (κ : sg_S) (cells slots : Nat), i + d = n → cells ≤ i + 2 → slots ≤ 200 * i + 20 → qb_I κ i f → sg_G p l e { frames := 7, cells := n + 4, slots := 201 * n + 24, locals := 210 } s m args below meth c D (va_A (sl_w Y ad σ []) s.heap.size) 4 cells slots Q 10 [(3, .int (nb i)), (2, .ref (b 0)), (0, .ref (ad 0)), (1, .int (nb n))] [] (sl_w Y ad σ (ww_J4 Y b κ ++ [])) := by
    intro d
    induction d with
    | zero =>
      intro i b κ cells slots h1 h2 h3 hq
      refine g_iload_n 11 C dL_line_10 rfl rfl rfl ?_
      refine g_iload_n 12 C dL_line_11 rfl rfl rfl ?_
      have hin2 : i = n := by omega
      subst hin2
      refine g_icmp_ge 15 32 C dL_line_12 (by decide) rfl (T := some ()) (E := none) (v := ()) (if_neg (nb_lt_f (by omega) (by omega))) (fun _ => ?_) (fun h => by cases h)
      refine g_aload_n 33 C dL_line_32 rfl rfl rfl ?_
      refine ls_toS 36 C hJ hB gL_line_J4_toString_0e30d ⟨(Nat.le_of_ble_eq_true rfl), (Nat.le_of_ble_eq_true rfl)⟩ (Nat.le_of_ble_eq_true rfl) (qk_of hq) ⟨by dsimp only; omega, by dsimp only; omega⟩ dL_line_33 rfl (fun a v bt hbt => ?_)
      refine g_widen (i + 4) (201 * i + 24) (by omega) (by omega) ?_
      exact g_aretX (P := (fun (u : Nat × Nat × (Nat → Int32)) => ∀ j, j < i → f j ≤ 127 ∧ u.2.2 j = nb (f j))) (ra := fun u => u.1) (w' := (fun u => sl_w Y ad σ (ww_S Y u.1 u.2.1 0 0 i u.2.2 ++ []))) (a, v, bt) C hr (Or.inl ⟨_, rfl⟩) hQ hsz dL_line_36 hbt rfl rfl
    | succ d ih =>
      intro i b κ cells slots h1 h2 h3 hq
      refine g_iload_n 11 C dL_line_10 rfl rfl rfl ?_
      refine g_iload_n 12 C dL_line_11 rfl rfl rfl ?_
      refine g_icmp_ge 15 32 C dL_line_12 (by decide) rfl (T := none) (E := some ()) (v := ()) (if_pos (nb_lt_t (by omega) (by omega))) (fun h => by cases h) (fun _ => ?_)
      refine g_aload_n 16 C dL_line_15 rfl rfl rfl ?_
      refine g_aload_n 17 C dL_line_16 rfl rfl rfl ?_
      refine g_iload_n 18 C dL_line_17 rfl rfl rfl ?_
      refine lc_written 21 C hJ gL_line_X7_written ⟨(Nat.le_of_ble_eq_true rfl), (Nat.le_of_ble_eq_true rfl)⟩ (Nat.le_of_ble_eq_true rfl) (ce_written hqn hn (by omega)) ⟨by dsimp only; omega, by dsimp only; omega⟩ dL_line_18 rfl ?_
      refine g_i2c 22 C dL_line_21 rfl ?_
      refine g_top (v := (nb (f i))) (k_127 _ (by have := hf i (by omega); omega)).symm ?_
      refine ls_chr 25 C hJ gL_line_J4_append_cf468 ⟨(Nat.le_of_ble_eq_true rfl), (Nat.le_of_ble_eq_true rfl)⟩ (Nat.le_of_ble_eq_true rfl) hq (by omega) (hf i (by omega)) ⟨by dsimp only; omega, by dsimp only; omega⟩ dL_line_22 rfl (fun b2 κ2 hb2 hq2 => ?_)
      rw [k_gwu] at hq2
      refine g_pop 26 C dL_line_25 rfl rfl ?_
      rw [← hb2]
      refine g_iinc 29 C 0 (nb (i + 1)) [(3, .int (nb (i + 1))), (2, .ref (b2 0)), (0, .ref (ad 0)), (1, .int (nb n))] dL_line_26 rfl rfl (nb_succ i) (by decide) rfl ?_
      refine g_goto 10 C dL_line_29 (by decide) ?_
      exact ih (i + 1) b2 κ2 (cells + 1) (slots + 200) (by omega) (by omega) (by omega) hq2
  refine g_lv (lv2 := [(0, .ref (ad 0)), (1, .int (nb n))]) [0, 1] rfl ?_
  refine ls_new 7 C hJ ksL_line_iJ4 ksL_line_n1 ksL_line_n2 ksL_line_n3 gL_line_J4_init_da8c8 ksL_line_n4 ksL_line_n5 ⟨(Nat.le_of_ble_eq_true rfl), (Nat.le_of_ble_eq_true rfl)⟩ (Nat.le_of_ble_eq_true rfl) ⟨by dsimp only; omega, by dsimp only; omega⟩ dL_line_0 dL_line_3 dL_line_4 rfl (fun b0 => ?_)
  refine g_astore_n 8 C [(2, .ref (b0 0)), (0, .ref (ad 0)), (1, .int (nb n))] dL_line_7 rfl rfl (by decide) rfl ?_
  refine g_iconst 9 C (nb 0) dL_line_8 rfl (by decide) ?_
  refine g_istore_n 10 C [(3, .int (nb 0)), (2, .ref (b0 0)), (0, .ref (ad 0)), (1, .int (nb n))] dL_line_9 rfl rfl (by decide) rfl ?_
  exact Kl n 0 b0 iJ4 _ _ (by omega) (by omega) (by omega) (k_nil f)
section SLM2
variable {p : Program} {l : Launch} {e : Env} {R : Room} {s : State} {m : MethodId} {args : Array Value} {below : List Frame} {meth : Method} {c : Code} {D : va_G} {Y : Nat → ClassId} {Z : (Nat → Prop) → State → Heap → Prop} {A : Nat → Prop} {nL : Nat} {cells slots : Nat} {Q : State → Prop} {cc : ByteArray} {own : String} {Ts : List Cond} {pc : Nat} {lv : List (Nat × Value)} {st : List Value} {X : va_W} {ad b : Nat → Nat} {σ κ : sg_S} {index : Nat} {jK jV jT : Nat → Nat} {f : Nat → Nat} {n0 : Nat}
theorem lk_line (n : Nat) (C : sg_C p R s m args meth c cc nL own Ts D Y Z A) (hJ : sg_ZJ Z jK jV jT) (hB : sg_Zb Z) (hG : GoodIn Ts (va_wsS own index yL_line wsL_line)) (hR : 8 ≤ R.frames ∧ 233 ≤ R.locals) (hroom : (st.map fun v => v.category).sum ≤ 8) (hqn : qb_I (sg_e1 177 σ) n0 f) (hn0 : n0 ≤ 88) (hcs : cells + (n0 + 4) ≤ R.cells ∧ slots + (201 * n0 + 24) ≤ R.slots) (hdg : decode cc pc = .ok (.invokestatic index, 3)) (hn : pc + 3 = n) (kk : ∀ (a v : Nat) (bt : Nat → Int32), (∀ j, j < n0 → f j ≤ 127 ∧ bt j = nb (f j)) → sg_G p l e R s m args below meth c D A nL (cells + (n0 + 4)) (slots + (201 * n0 + 24)) Q n lv (.ref a :: st) (sl_w Y ad σ (ww_S Y a v 0 0 n0 bt ++ X))) : sg_G p l e R s m args below meth c D A nL cells slots Q pc lv (.int (nb n0) :: .ref (ad 0) :: st) (sl_w Y ad σ X) :=
  g_XSr n C (As := [.ref (ad 0), .int (nb n0)]) (st := st) (n0 := 2) (k_line l C.2.2.2.2.2.2.2.1 hJ hB hqn hn0) hG ⟨by decide +kernel, by decide +kernel, rfl⟩ rfl hR (sl_cutL Y ad σ [] X (fun _ => ad) (fun _ => σ) (fun u : Nat × Nat × (Nat → Int32) => ww_S Y u.1 u.2.1 0 0 n0 u.2.2 ++ [])) rfl hroom hcs hdg hn rfl (fun u hu => kk u.1 u.2.1 u.2.2 hu)
end SLM2
