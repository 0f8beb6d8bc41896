/-! THE LAW: from its entry to its end -/
theorem ksL_law_n1 : Cond.classLink RL 24 RX8 ∈ wsL_law := by decide +kernel
theorem ksL_law_n2 : Cond.instantiable RX8 1 ∈ wsL_law := by decide +kernel
theorem ksL_law_n3 : Cond.initialized RX8 ∈ wsL_law := by decide +kernel
theorem ksL_law_n4 : Cond.methodLink RL 197 yX8_init ∈ wsL_law := by decide +kernel
theorem ksL_law_n5 : Cond.instanceMethod yX8_init ∈ wsL_law := by decide +kernel
theorem ksL_law_m1 : Cond.methodLink RL 101 Lib.Math.min.name ∈ wsL_law := by decide +kernel
theorem ksL_law_m2 : Cond.static Lib.Math.min.name ∈ wsL_law := by decide +kernel
theorem ksL_law_m3 : Cond.initialized "java/lang/Math" ∈ wsL_law := by decide +kernel
theorem ksL_law_m4 : Cond.code Lib.Math.min.name Lib.Math.min.code 2 (some .int) ∈ wsL_law := by decide +kernel
theorem ksL_law_o1 : Cond.classLink RL 18 RX7 ∈ wsL_law := by decide +kernel
theorem ksL_law_o2 : Cond.instantiable RX7 10 ∈ wsL_law := by decide +kernel
theorem ksL_law_o3 : Cond.initialized RX7 ∈ wsL_law := by decide +kernel
theorem ksL_law_o4 : Cond.methodLink RL 173 yX7_init ∈ wsL_law := by decide +kernel
theorem ksL_law_o5 : Cond.instanceMethod yX7_init ∈ wsL_law := by decide +kernel
theorem ksL_law_cd : Cond.constantDouble RL 187 (4621819117588971520) ∈ wsL_law := by decide +kernel
theorem kb_un {σ σ2 : sg_S} (h : fr_F fs_un σ σ2) : sg_mg kb_TNH σ σ2 = σ2 := by
  refine sl_mgE (fun p k hp => h p k ?_)
  unfold kb_TNH at hp
  rw [nb_ble, nb_ble, nb_ble] at hp
  simp only [Bool.or_eq_false_iff, Bool.and_eq_false_iff, decide_eq_false_iff_not] at hp
  unfold fs_un
  omega
theorem k_p3 (S2 B S : va_W) : (S2 ++ (B ++ (S ++ []))).Perm (S ++ S2 ++ (B ++ [])) := by
  rw [List.append_assoc]
  exact (List.Perm.append_left S2 (List.perm_append_comm_assoc B S [])).trans (List.perm_append_comm_assoc S2 S (B ++ []))
theorem k_and (r : Int32) : ∃ y, y < 2147483648 ∧ r &&& (nb 255) = nb y := by
  refine ⟨(r &&& nb 255).toBitVec.toNat, ?_, ?_⟩
  · have h : (r &&& nb 255).toBitVec.toNat ≤ 255 := by
      rw [Int32.toBitVec_and, BitVec.toNat_and]
      exact Nat.and_le_right
    omega
  · unfold nb
    exact (Int32.ofNat_bitVecToNat (r &&& Int32.ofNat 255).toBitVec).symm
theorem k_hs {c : Nat} (h : c ≤ 8) : min 8 (c + 1) = hs_c c ∧ 1 ≤ hs_c c := by
  unfold hs_c
  split <;> omega
theorem cl_c8 {m c : Nat} {w : Nat → Nat} {σ : sg_S} (h : cl_A m w c σ) : c ≤ 8 := by
  obtain ⟨s, hs⟩ := h.2.2.1
  exact hs.1
theorem k_neg {r : Int32} (h : r = -1 ∨ r = -2 ∨ r = -5) : r < 0 := by
  rcases h with rfl | rfl | rfl <;> decide
set_option maxRecDepth 100000 in
theorem k_mean0 : Op.cmpValue (FP.dcmp (fp_mean (nb (ga_s w_0 0))) 4621819117588971520) CmpOp.l = 0 := by decide +kernel
set_option maxRecDepth 100000 in
theorem k_share0 : Op.cmpValue (FP.fcmp (fp_share (nb (w_0 8)) (nb (w_0 7))) FP.fconst0) CmpOp.l = 0 := by decide +kernel
section SLQ
variable {p : Program} {l : Launch} {e : Env} {s : State} {m : MethodId} {below : List Frame} {meth : Method} {cd : Code} {D : va_G} {Y : Nat → ClassId} {jK jV jT : Nat → Nat} {b L : Nat} {xs : Nat → Int32}
theorem sl_end {cells slots : Nat} {lv : List (Nat × Value)} {w : va_W} (C : sg_C p room_1 (s.setDrawn s.drawn) m #[Value.ref b] meth cd cL_law 10 RL wsL_law D Y (sl_Z jK jV jT b L xs) (sl_A s)) (hr : meth.sig.returnType = ret) (h1 : cells ≤ 600000) (h2 : slots ≤ 7302250) : sg_G p l e room_1 (s.setDrawn s.drawn) m #[Value.ref b] below meth cd D (sl_A s) 10 cells slots (lw_Z below #[Value.ref b] s) 542 lv [.int 1] w := by
  intro H locs ls hP hD hS hh
  refine va_forget (fun q hq => hS.2.2 q hq) ?_
  refine W.widen (k := 600000) (n := 7302250) h1 h2 ?_
  exact lw_ret (Drawn.sameBut.refl s.drawn lw_cs) C.1 C.2.1 hr C.2.2.2.2.2.2.2.2.2 dL_law_542
theorem lt_lt {m c : Nat} {w : Nat → Nat} {σ : sg_S} (h : cl_A m w c σ) (hm : m ≤ 31 := by omega) : (lt_w w).1 < 100000 := by
  have h1 := lt_tB h.2.1.2 5 (Nat.le_refl 5)
  have hz : (lz_s w (w 1)).1 ≤ 11 * w 1 := by
    refine (lz_B ⟨h.2.1.2.1, fun c hc => ?_⟩ (w 1) (Nat.le_refl _)).1
    obtain ⟨b1, b2, b3, b4, b5⟩ := h.2.1.2.2.2.2.2.2.1 c hc
    exact ⟨b1, b3, by have := h.2.1.1.1; omega⟩
  have h8 := h.2.1.2.1
  show (lt_t w 5).1 + (lz_s w (w 1)).1 < 100000
  omega
set_option maxHeartbeats 4000000 in
set_option maxRecDepth 100000 in
theorem sl_436 (C : sg_C p room_1 (s.setDrawn s.drawn) m #[Value.ref b] meth cd cL_law 10 RL wsL_law D Y (sl_Z jK jV jT b L xs) (sl_A s)) {ad : Nat → Nat} {σ : sg_S} {w2 : Nat → Nat} {q i c cells slots : Nat} {u : Int32} (hi : i < 14) (hA : cl_A (12 + i) w2 c σ) (hc : cells ≤ 200 + 1460 * i + 850 * (i / 3) + 841) (hs : slots ≤ 1100 + 369900 * i + 245900 * (i / 3) + 245810) (hnext : ∀ (ad2 : Nat → Nat) (σ2 : sg_S) (w3 : Nat → Nat) (c2 cells slots : Nat), cl_A (12 + i) w3 c2 σ2 → cells ≤ 200 + 1460 * (i + 1) + 850 * ((i + 1) / 3) → slots ≤ 1100 + 369900 * (i + 1) + 245900 * ((i + 1) / 3) → sg_G p l e room_1 (s.setDrawn s.drawn) m #[Value.ref b] below meth cd D (sl_A s) 10 cells slots (lw_Z below #[Value.ref b] s) 295 [(4, .int (nb (i + 1))), (3, .int 32), (2, .int (nb (2 * i + 2))), (1, .ref (ad2 0)), (0, .ref b)] [] (sl_w Y ad2 σ2 ([]))) : sg_G p l e room_1 (s.setDrawn s.drawn) m #[Value.ref b] below meth cd D (sl_A s) 10 cells slots (lw_Z below #[Value.ref b] s) 436 [(7, .int (nb c)), (6, .ref q), (4, .int (nb i)), (3, .int 32), (2, .int (nb (2 * i + 2))), (1, .ref (ad 0)), (0, .ref b)] [] (sl_w Y ad σ (bx_W q u ++ [])) := by
  refine g_aload_n 437 C dL_law_436 rfl rfl rfl ?_
  refine g_bipush 439 C (nb 15) dL_law_437 rfl (by decide) ?_
  refine lc_account 442 C gL_law_X7_account ⟨(Nat.le_of_ble_eq_true rfl), (Nat.le_of_ble_eq_true rfl)⟩ (Nat.le_of_ble_eq_true rfl) (ce_account hA (k := 15) (by decide)) ⟨by show _ ≤ 600000; omega, by show _ ≤ 7302250; omega⟩ dL_law_439 rfl ?_
  refine g_top (v := (nb c)) rfl ?_
  refine g_iload 444 C dL_law_442 rfl rfl ?_
  refine g_icmp_ne 447 479 C dL_law_444 (by decide) rfl (T := none) (E := some ()) (v := ()) (if_pos rfl) (fun h => by cases h) (fun _ => ?_)
  refine g_aload_n 448 C dL_law_447 rfl rfl rfl ?_
  refine g_bipush 450 C (nb 14) dL_law_448 rfl (by decide) ?_
  refine lc_account 453 C gL_law_X7_account ⟨(Nat.le_of_ble_eq_true rfl), (Nat.le_of_ble_eq_true rfl)⟩ (Nat.le_of_ble_eq_true rfl) (ce_account hA (k := 14) (by decide)) ⟨by show _ ≤ 600000; omega, by show _ ≤ 7302250; omega⟩ dL_law_450 rfl ?_
  refine g_top (v := (nb 0)) rfl ?_
  refine g_if_ne 456 479 C dL_law_453 (by decide) rfl (T := none) (E := some ()) (v := ()) (if_pos rfl) (fun h => by cases h) (fun _ => ?_)
  refine g_aload_n 457 C dL_law_456 rfl rfl rfl ?_
  refine g_aload 459 C dL_law_457 rfl rfl ?_
  refine lk_treaties 462 C (sl_ZN jK jV jT b L xs) hA gL_law_L_treaties ⟨(Nat.le_of_ble_eq_true rfl), (Nat.le_of_ble_eq_true rfl)⟩ (Nat.le_of_ble_eq_true rfl) ⟨by show _ ≤ 600000; omega, by show _ ≤ 7302250; omega⟩ dL_law_459 rfl (fun σ2 u2 hA2 _ => ?_)
  refine g_if_eq 465 479 C dL_law_462 (by decide) rfl (T := none) (E := some ()) (v := ()) (if_neg (by decide)) (fun h => by cases h) (fun _ => ?_)
  refine g_aload_n 466 C dL_law_465 rfl rfl rfl ?_
  refine lk_credits 469 C (sl_ZJ jK jV jT b L xs) (sl_Zb jK jV jT b L xs) (sl_ZL jK jV jT b L xs) hA2 (by omega) gL_law_L_credits ⟨(Nat.le_of_ble_eq_true rfl), (Nat.le_of_ble_eq_true rfl)⟩ (Nat.le_of_ble_eq_true rfl) ⟨by show _ ≤ 600000; omega, by show _ ≤ 7302250; omega⟩ dL_law_466 rfl (fun ad3 σ3 h3 hA3 _ => ?_)
  rw [← h3]
  refine g_if_eq 472 479 C dL_law_469 (by decide) rfl (T := none) (E := some ()) (v := ()) (if_neg (by decide)) (fun h => by cases h) (fun _ => ?_)
  refine g_aload_n 473 C dL_law_472 rfl rfl rfl ?_
  refine lk_towns 476 C (sl_ZJ jK jV jT b L xs) (sl_Zb jK jV jT b L xs) (sl_ZL jK jV jT b L xs) hA3 (by omega) gL_law_L_towns ⟨(Nat.le_of_ble_eq_true rfl), (Nat.le_of_ble_eq_true rfl)⟩ (Nat.le_of_ble_eq_true rfl) ⟨by show _ ≤ 600000; omega, by show _ ≤ 7302250; omega⟩ dL_law_473 rfl (fun ad4 σ4 h4 hA4 _ => ?_)
  rw [← h4]
  refine g_if_ne 479 481 C dL_law_476 (by decide) rfl (T := some ()) (E := none) (v := ()) (if_neg (by decide)) (fun _ => ?_) (fun h => by cases h)
  refine g_iload 483 C dL_law_481 rfl rfl ?_
  refine g_iconst 484 C (nb 3) dL_law_483 rfl (by decide) ?_
  refine g_iremc 485 C dL_law_484 rfl (by decide) ?_
  refine g_top (v := (nb (i % 3))) (bx_rem (by omega) (by decide)).symm ?_
  refine g_iconst 486 C (nb 2) dL_law_485 rfl (by decide) ?_
  by_cases hi3 : i % 3 = 2
  · skip
    refine g_icmp_ne 489 527 C dL_law_486 (by decide) rfl (T := none) (E := some ()) (v := ()) (if_pos (by rw [hi3])) (fun h => by cases h) (fun _ => ?_)
    refine g_aload_n 490 C dL_law_489 rfl rfl rfl ?_
    refine lk_told 493 C (sl_ZJ jK jV jT b L xs) (sl_Zb jK jV jT b L xs) gL_law_L_told ⟨(Nat.le_of_ble_eq_true rfl), (Nat.le_of_ble_eq_true rfl)⟩ (Nat.le_of_ble_eq_true rfl) hA4 (by omega) ⟨by show _ ≤ 600000; omega, by show _ ≤ 7302250; omega⟩ dL_law_490 rfl (fun ad5 σ5 s1 v1 t1 h5 hA5 hx5 ht1 => ?_)
    rw [← h5]
    refine g_astore 495 C [(8, .ref s1), (7, .int (nb c)), (6, .ref q), (4, .int (nb i)), (3, .int 32), (2, .int (nb (2 * i + 2))), (1, .ref (ad5 0)), (0, .ref b)] dL_law_493 rfl (by decide) rfl ?_
    refine ls_perm (List.perm_append_comm_assoc _ _ _) ?_
    refine g_aload_n 496 C dL_law_495 rfl rfl rfl ?_
    refine g_aload 498 C dL_law_496 rfl rfl ?_
    refine lk_foretold 501 C hA5 (by omega) gL_law_L_foretold ⟨(Nat.le_of_ble_eq_true rfl), (Nat.le_of_ble_eq_true rfl)⟩ (Nat.le_of_ble_eq_true rfl) ⟨by show _ ≤ 600000; omega, by show _ ≤ 7302250; omega⟩ dL_law_498 rfl (fun σ6 u3 hA6 => ?_)
    refine g_if_eq 504 525 C dL_law_501 (by decide) rfl (T := none) (E := some ()) (v := ()) (if_neg (by decide)) (fun h => by cases h) (fun _ => ?_)
    refine g_aload 506 C dL_law_504 rfl rfl ?_
    refine g_aload_n 507 C dL_law_506 rfl rfl rfl ?_
    refine lk_told 510 C (sl_ZJ jK jV jT b L xs) (sl_Zb jK jV jT b L xs) gL_law_L_told ⟨(Nat.le_of_ble_eq_true rfl), (Nat.le_of_ble_eq_true rfl)⟩ (Nat.le_of_ble_eq_true rfl) hA6 (by omega) ⟨by show _ ≤ 600000; omega, by show _ ≤ 7302250; omega⟩ dL_law_507 rfl (fun ad7 σ7 s2 v2 t2 h7 hA7 hx7 ht2 => ?_)
    rw [← h7]
    refine ls_perm (k_p3 _ _ _) ?_
    refine ls_eq 513 C (sl_ZJ jK jV jT b L xs) gL_law_J0_equals_9ea2d ⟨(Nat.le_of_ble_eq_true rfl), (Nat.le_of_ble_eq_true rfl)⟩ (Nat.le_of_ble_eq_true rfl) (lt_lt hA7) (fun k hk => (ht1 k hk).2.trans (ht2 k hk).2.symm) ⟨by show _ ≤ 600000; omega, by show _ ≤ 7302250; omega⟩ dL_law_510 rfl ?_
    refine g_if_eq 516 525 C dL_law_513 (by decide) rfl (T := none) (E := some ()) (v := ()) (if_neg (by decide)) (fun h => by cases h) (fun _ => ?_)
    refine g_aload_n 517 C dL_law_516 rfl rfl rfl ?_
    refine g_bipush 519 C (nb 15) dL_law_517 rfl (by decide) ?_
    refine lc_account 522 C gL_law_X7_account ⟨(Nat.le_of_ble_eq_true rfl), (Nat.le_of_ble_eq_true rfl)⟩ (Nat.le_of_ble_eq_true rfl) (ce_account hA7 (k := 15) (by decide)) ⟨by show _ ≤ 600000; omega, by show _ ≤ 7302250; omega⟩ dL_law_519 rfl ?_
    refine g_top (v := (nb 0)) rfl ?_
    refine g_if_eq 525 527 C dL_law_522 (by decide) rfl (T := some ()) (E := none) (v := ()) (if_pos rfl) (fun _ => ?_) (fun h => by cases h)
    refine ls_drop (X2 := []) _ (List.Perm.of_eq (List.append_nil _).symm) ?_
    refine g_lv (lv2 := [(4, .int (nb i)), (3, .int 32), (2, .int (nb (2 * i + 2))), (1, .ref (ad7 0)), (0, .ref b)]) [3, 4, 5, 6, 7] rfl ?_
    refine g_iinc 530 C 0 (nb (i + 1)) [(4, .int (nb (i + 1))), (3, .int 32), (2, .int (nb (2 * i + 2))), (1, .ref (ad7 0)), (0, .ref b)] dL_law_527 rfl rfl (nb_succ i) (by decide) rfl ?_
    refine g_goto 295 C dL_law_530 (by decide) ?_
    exact hnext ad7 σ7 w2 0 _ _ hA7 (by omega) (by omega)
  · skip
    refine g_icmp_ne 489 527 C dL_law_486 (by decide) rfl (T := some ()) (E := none) (v := ()) (if_neg (nb_ne (b := 2) hi3 (by omega) (by decide))) (fun _ => ?_) (fun h => by cases h)
    refine ls_drop (X2 := []) _ (List.Perm.of_eq (List.append_nil _).symm) ?_
    refine g_lv (lv2 := [(4, .int (nb i)), (3, .int 32), (2, .int (nb (2 * i + 2))), (1, .ref (ad4 0)), (0, .ref b)]) [2, 3, 4, 5, 6] rfl ?_
    refine g_iinc 530 C 0 (nb (i + 1)) [(4, .int (nb (i + 1))), (3, .int 32), (2, .int (nb (2 * i + 2))), (1, .ref (ad4 0)), (0, .ref b)] dL_law_527 rfl rfl (nb_succ i) (by decide) rfl ?_
    refine g_goto 295 C dL_law_530 (by decide) ?_
    exact hnext ad4 σ4 w2 c _ _ hA4 (by omega) (by omega)
set_option maxHeartbeats 4000000 in
set_option maxRecDepth 100000 in
theorem sl_loop (hL : L ≤ 260) (C : sg_C p room_1 (s.setDrawn s.drawn) m #[Value.ref b] meth cd cL_law 10 RL wsL_law D Y (sl_Z jK jV jT b L xs) (sl_A s)) (hr : meth.sig.returnType = ret) : ∀ (d i : Nat) (ad : Nat → Nat) (σ : sg_S) (w : Nat → Nat) (c cells slots : Nat), i + d = 14 → cl_A (11 + i) w c σ → cells ≤ 200 + 1460 * i + 850 * (i / 3) → slots ≤ 1100 + 369900 * i + 245900 * (i / 3) → sg_G p l e room_1 (s.setDrawn s.drawn) m #[Value.ref b] below meth cd D (sl_A s) 10 cells slots (lw_Z below #[Value.ref b] s) 295 [(4, .int (nb i)), (3, .int 32), (2, .int (nb (2 * i))), (1, .ref (ad 0)), (0, .ref b)] [] (sl_w Y ad σ ([])) := by
  intro d
  induction d with
  | zero =>
    intro i ad σ w c cells slots h1 hA h2 h3
    refine g_iload 297 C dL_law_295 rfl rfl ?_
    refine g_bipush 299 C (nb 14) dL_law_297 rfl (by decide) ?_
    refine g_icmp_ge 302 533 C dL_law_299 (by decide) rfl (T := some ()) (E := none) (v := ()) (if_neg (nb_lt_f (by omega) (by omega))) (fun _ => ?_) (fun h => by cases h)
    refine g_iload_n 534 C dL_law_533 rfl rfl rfl ?_
    refine g_if_le 537 541 C dL_law_534 (by decide) rfl (T := none) (E := some ()) (v := ()) (if_pos (by decide)) (fun h => by cases h) (fun _ => ?_)
    refine g_iconst 538 C (nb 1) dL_law_537 rfl (by decide) ?_
    refine g_goto 542 C dL_law_538 (by decide) ?_
    exact sl_end C hr (by omega) (by omega)
  | succ d ih =>
    intro i ad σ w c cells slots h1 hA h2 h3
    refine g_iload 297 C dL_law_295 rfl rfl ?_
    refine g_bipush 299 C (nb 14) dL_law_297 rfl (by decide) ?_
    refine g_icmp_ge 302 533 C dL_law_299 (by decide) rfl (T := none) (E := some ()) (v := ()) (if_pos (nb_lt_t (by omega) (by omega))) (fun h => by cases h) (fun _ => ?_)
    refine g_aload_n 303 C dL_law_302 rfl rfl rfl ?_
    refine g_iload_n 304 C dL_law_303 rfl rfl rfl ?_
    refine g_XSi 307 C (As := [.ref b, .int (nb (2 * i))]) (st := []) (n0 := 2) (k_cell l C.2.2.2.2.2.2.2.1 (sl_ZX jK jV jT b L xs hL) (i := (2 * i)) (by omega)) gL_law_L_cell ⟨by decide +kernel, by decide +kernel, rfl⟩ rfl ⟨(Nat.le_of_ble_eq_true rfl), (Nat.le_of_ble_eq_true rfl)⟩ ⟨_, List.Perm.of_eq (List.nil_append _).symm, fun _ => List.Perm.of_eq (List.append_nil _)⟩ rfl (Nat.le_of_ble_eq_true rfl) ⟨by show _ ≤ 600000; omega, by show _ ≤ 7302250; omega⟩ dL_law_304 rfl rfl (fun ra _ _ => ?_)
    refine g_sipush 310 C (nb 255) dL_law_307 rfl (by decide) ?_
    refine g_iand 311 C dL_law_310 rfl ?_
    obtain ⟨yy, hyy, hye⟩ := k_and ra
    rw [hye]
    refine g_istore 313 C [(5, .int (nb yy)), (4, .int (nb i)), (3, .int 32), (2, .int (nb (2 * i))), (1, .ref (ad 0)), (0, .ref b)] dL_law_311 rfl (by decide) rfl ?_
    refine g_new 316 C (C1 := RX8) (T := TX8) (N := 1) (ci := 10) [.int 0] tyX8 tyX8_ok (fun w hw => (gp_wsX80 w hw).1) ksL_law_n1 ksL_law_n2 ksL_law_n3 rfl (by decide +kernel) (by show _ ≤ 600000; omega) (by show _ ≤ 7302250; omega) dL_law_313 rfl (fun q => ?_)
    refine g_perm (w2 := sl_w Y ad σ (bx_W q 0 ++ [])) (by rw [sl_wE, sl_wE, List.append_nil, List.nil_append]; exact List.perm_append_comm) ?_
    refine g_dup 317 C dL_law_316 rfl rfl ?_
    refine g_aload_n 318 C dL_law_317 rfl rfl rfl ?_
    refine g_iload_n 319 C dL_law_318 rfl rfl rfl ?_
    refine g_iconst 320 C (nb 1) dL_law_319 rfl (by decide) ?_
    refine g_iadd 321 C dL_law_320 rfl ?_
    refine g_top (v := (nb (2 * i + 1))) (nb_add _ _).symm ?_
    refine g_XSi 324 C (As := [.ref b, .int (nb (2 * i + 1))]) (st := [.ref q, .ref q]) (n0 := 2) (k_cell l C.2.2.2.2.2.2.2.1 (sl_ZX jK jV jT b L xs hL) (i := (2 * i + 1)) (by omega)) gL_law_L_cell ⟨by decide +kernel, by decide +kernel, rfl⟩ rfl ⟨(Nat.le_of_ble_eq_true rfl), (Nat.le_of_ble_eq_true rfl)⟩ ⟨_, List.Perm.of_eq (List.nil_append _).symm, fun _ => List.Perm.of_eq (List.append_nil _)⟩ rfl (Nat.le_of_ble_eq_true rfl) ⟨by show _ ≤ 600000; omega, by show _ ≤ 7302250; omega⟩ dL_law_321 rfl rfl (fun rb _ _ => ?_)
    refine g_XIv 327 C (ret := none) (As := [.int rb]) (st := [.ref q]) (n0 := 1) (k_bits l C.2.2.2.2.2.2.2.1 (a := q) (v := rb)) gL_law_X8_init ksL_law_n3 ksL_law_n4 ksL_law_n5 rfl ⟨by decide, by decide, by decide +kernel⟩ rfl ⟨(Nat.le_of_ble_eq_true rfl), (Nat.le_of_ble_eq_true rfl)⟩ (sl_cutX Y ad σ _ [] (fun _ => bx_W q rb)) rfl (Nat.le_of_ble_eq_true rfl) ⟨by show _ ≤ 600000; omega, by show _ ≤ 7302250; omega⟩ dL_law_324 rfl rfl (fun _ _ => ?_)
    refine g_astore 329 C [(6, .ref q), (5, .int (nb yy)), (4, .int (nb i)), (3, .int 32), (2, .int (nb (2 * i))), (1, .ref (ad 0)), (0, .ref b)] dL_law_327 rfl (by decide) rfl ?_
    refine g_iinc 332 C 4 (nb (2 * i + 2)) [(2, .int (nb (2 * i + 2))), (6, .ref q), (5, .int (nb yy)), (4, .int (nb i)), (3, .int 32), (1, .ref (ad 0)), (0, .ref b)] dL_law_329 rfl rfl (nb_add _ _) (by decide) rfl ?_
    refine g_aload_n 333 C dL_law_332 rfl rfl rfl ?_
    refine g_bipush 335 C (nb 15) dL_law_333 rfl (by decide) ?_
    refine lc_account 338 C gL_law_X7_account ⟨(Nat.le_of_ble_eq_true rfl), (Nat.le_of_ble_eq_true rfl)⟩ (Nat.le_of_ble_eq_true rfl) (ce_account hA (k := 15) (by decide)) ⟨by show _ ≤ 600000; omega, by show _ ≤ 7302250; omega⟩ dL_law_335 rfl ?_
    refine g_top (v := (nb c)) rfl ?_
    refine g_istore 340 C [(7, .int (nb c)), (2, .int (nb (2 * i + 2))), (6, .ref q), (5, .int (nb yy)), (4, .int (nb i)), (3, .int 32), (1, .ref (ad 0)), (0, .ref b)] dL_law_338 rfl (by decide) rfl ?_
    refine g_aload_n 341 C dL_law_340 rfl rfl rfl ?_
    refine lk_told 344 C (sl_ZJ jK jV jT b L xs) (sl_Zb jK jV jT b L xs) gL_law_L_told ⟨(Nat.le_of_ble_eq_true rfl), (Nat.le_of_ble_eq_true rfl)⟩ (Nat.le_of_ble_eq_true rfl) hA (by omega) ⟨by show _ ≤ 600000; omega, by show _ ≤ 7302250; omega⟩ dL_law_341 rfl (fun ad1 σ1 s1 v1 t1 h1' hA1 hx1 ht1 => ?_)
    rw [← h1']
    refine g_astore 346 C [(8, .ref s1), (7, .int (nb c)), (2, .int (nb (2 * i + 2))), (6, .ref q), (5, .int (nb yy)), (4, .int (nb i)), (3, .int 32), (1, .ref (ad1 0)), (0, .ref b)] dL_law_344 rfl (by decide) rfl ?_
    refine ls_perm (List.perm_append_comm_assoc _ _ _) ?_
    refine g_aload_n 347 C dL_law_346 rfl rfl rfl ?_
    refine g_iload 349 C dL_law_347 rfl rfl ?_
    refine g_aload 351 C dL_law_349 rfl rfl ?_
    refine lk_acts 354 C hA1 (by omega) gL_law_L_acts ⟨(Nat.le_of_ble_eq_true rfl), (Nat.le_of_ble_eq_true rfl)⟩ (Nat.le_of_ble_eq_true rfl) hyy ⟨by show _ ≤ 600000; omega, by show _ ≤ 7302250; omega⟩ dL_law_351 rfl (fun r σ2 u hT => ?_)
    refine g_istore 356 C [(9, .int r), (8, .ref s1), (7, .int (nb c)), (2, .int (nb (2 * i + 2))), (6, .ref q), (5, .int (nb yy)), (4, .int (nb i)), (3, .int 32), (1, .ref (ad1 0)), (0, .ref b)] dL_law_354 rfl (by decide) rfl ?_
    refine g_iload 358 C dL_law_356 rfl rfl ?_
    rcases hT with ⟨hF, ⟨n, w2, er, hn, hA2, hu2, _⟩ | ⟨er, hA2, _⟩⟩
    · skip
      have hr0 : ¬ r < 0 := by rw [er]; exact nb_nneg (by omega)
      have hc8 := cl_c8 hA1
      have hk := k_hs hc8
      refine g_if_ge 361 375 C dL_law_358 (by decide) rfl (T := some ()) (E := none) (v := ()) (if_neg hr0) (fun _ => ?_) (fun h => by cases h)
      refine g_iload 377 C dL_law_375 rfl rfl ?_
      refine g_if_ge 380 385 C dL_law_377 (by decide) rfl (T := some ()) (E := none) (v := ()) (if_neg hr0) (fun _ => ?_) (fun h => by cases h)
      refine g_bipush 387 C (nb 8) dL_law_385 rfl (by decide) ?_
      refine g_iload 389 C dL_law_387 rfl rfl ?_
      refine g_iconst 390 C (nb 1) dL_law_389 rfl (by decide) ?_
      refine g_iadd 391 C dL_law_390 rfl ?_
      refine g_top (v := (nb (c + 1))) (nb_succ c).symm ?_
      refine g_mmin 394 C ksL_law_m1 ksL_law_m2 ksL_law_m3 ksL_law_m4 (Nat.le_of_ble_eq_true rfl) (Nat.le_of_ble_eq_true rfl) (by show _ ≤ 600000; omega) (by show _ ≤ 7302250; omega) dL_law_391 rfl ?_
      refine g_top (v := (nb (hs_c c))) (by rw [← hk.1, Nat.min_comm]; exact (bx_min (by omega) (by omega)).symm) ?_
      refine g_istore 396 C [(7, .int (nb (hs_c c))), (9, .int r), (8, .ref s1), (2, .int (nb (2 * i + 2))), (6, .ref q), (5, .int (nb yy)), (4, .int (nb i)), (3, .int 32), (1, .ref (ad1 0)), (0, .ref b)] dL_law_394 rfl (by decide) rfl ?_
      refine g_iload 398 C dL_law_396 rfl rfl ?_
      refine g_if_lt 401 436 C dL_law_398 (by decide) rfl (T := none) (E := some ()) (v := ()) (if_pos (by rw [er]; exact nb_0le (by omega))) (fun h => by cases h) (fun _ => ?_)
      refine g_aload 403 C dL_law_401 rfl rfl ?_
      refine g_iconst 404 C (nb 4) dL_law_403 rfl (by decide) ?_
      refine lb_next 407 C gL_law_X8_next ⟨(Nat.le_of_ble_eq_true rfl), (Nat.le_of_ble_eq_true rfl)⟩ (Nat.le_of_ble_eq_true rfl) (by decide) (by decide) ⟨by show _ ≤ 600000; omega, by show _ ≤ 7302250; omega⟩ dL_law_404 rfl (fun rn u4 hrn => ?_)
      by_cases hz : rn = 0
      · skip
        refine g_if_ne 410 436 C dL_law_407 (by decide) rfl (T := none) (E := some ()) (v := ()) (if_pos (by rw [hz]; rfl)) (fun h => by cases h) (fun _ => ?_)
        obtain ⟨k, hk2⟩ : ∃ k, hs_c c = k + 1 := ⟨hs_c c - 1, by omega⟩
        rw [hk2] at hA2 ⊢
        refine g_iinc 413 C 0 (nb k) [(7, .int (nb k)), (9, .int r), (8, .ref s1), (2, .int (nb (2 * i + 2))), (6, .ref q), (5, .int (nb yy)), (4, .int (nb i)), (3, .int 32), (1, .ref (ad1 0)), (0, .ref b)] dL_law_410 rfl rfl (nb_dec k) (by decide) rfl ?_
        refine g_aload_n 414 C dL_law_413 rfl rfl rfl ?_
        obtain ⟨σ3, e3, hF3, hA3⟩ := cl_undo hA2 (by omega) hu2 (gi_mono hA1.2.1 (by omega))
        refine lc_undo 417 C gL_law_X7_undo ⟨(Nat.le_of_ble_eq_true rfl), (Nat.le_of_ble_eq_true rfl)⟩ (Nat.le_of_ble_eq_true rfl) e3 ⟨by show _ ≤ 600000; omega, by show _ ≤ 7302250; omega⟩ dL_law_414 rfl ?_
        rw [kb_un hF3]
        refine g_top (v := (nb k)) rfl ?_
        refine g_iload 419 C dL_law_417 rfl rfl ?_
        refine g_icmp_ne 422 434 C dL_law_419 (by decide) rfl (T := none) (E := some ()) (v := ()) (if_pos rfl) (fun h => by cases h) (fun _ => ?_)
        refine g_aload 424 C dL_law_422 rfl rfl ?_
        refine g_aload_n 425 C dL_law_424 rfl rfl rfl ?_
        refine lk_told 428 C (sl_ZJ jK jV jT b L xs) (sl_Zb jK jV jT b L xs) gL_law_L_told ⟨(Nat.le_of_ble_eq_true rfl), (Nat.le_of_ble_eq_true rfl)⟩ (Nat.le_of_ble_eq_true rfl) hA3 (by omega) ⟨by show _ ≤ 600000; omega, by show _ ≤ 7302250; omega⟩ dL_law_425 rfl (fun ad5 σ5 s2 v2 t2 h5 hA5 hx5 ht2 => ?_)
        rw [← h5]
        refine ls_perm (k_p3 _ _ _) ?_
        refine ls_eq 431 C (sl_ZJ jK jV jT b L xs) gL_law_J0_equals_9ea2d ⟨(Nat.le_of_ble_eq_true rfl), (Nat.le_of_ble_eq_true rfl)⟩ (Nat.le_of_ble_eq_true rfl) (lt_lt hA5) (fun k hk => (ht1 k hk).2.trans (ht2 k hk).2.symm) ⟨by show _ ≤ 600000; omega, by show _ ≤ 7302250; omega⟩ dL_law_428 rfl ?_
        refine g_if_ne 434 436 C dL_law_431 (by decide) rfl (T := some ()) (E := none) (v := ()) (if_neg (by decide)) (fun _ => ?_) (fun h => by cases h)
        refine ls_drop (X2 := bx_W q u4 ++ []) (ww_S Y s1 v1 0 0 (lt_w w).1 t1 ++ ww_S Y s2 v2 0 0 (lt_w w).1 t2) (List.Perm.refl _) ?_
        refine g_lv (lv2 := [(7, .int (nb k)), (6, .ref q), (4, .int (nb i)), (3, .int 32), (2, .int (nb (2 * i + 2))), (1, .ref (ad5 0)), (0, .ref b)]) [0, 4, 6, 7, 3, 8, 9] rfl ?_
        exact sl_436 C (by omega) (cl_mono hA5 (by omega)) (by omega) (by omega) (fun ad2 σ2 w3 c2 cells slots g1 g2 g3 => ih (i + 1) ad2 σ2 w3 c2 cells slots (by omega) (by rw [(by omega : 11 + (i + 1) = 12 + i)]; exact g1) g2 g3)
      · skip
        refine g_if_ne 410 436 C dL_law_407 (by decide) rfl (T := some ()) (E := none) (v := ()) (if_neg (nb_ne (b := 0) hz (by omega) (by decide))) (fun _ => ?_) (fun h => by cases h)
        refine ls_drop (X2 := bx_W q u4 ++ []) (ww_S Y s1 v1 0 0 (lt_w w).1 t1) (by rw [List.append_nil, List.append_nil]; exact List.perm_append_comm) ?_
        refine g_lv (lv2 := [(7, .int (nb (hs_c c))), (6, .ref q), (4, .int (nb i)), (3, .int 32), (2, .int (nb (2 * i + 2))), (1, .ref (ad1 0)), (0, .ref b)]) [0, 4, 6, 7, 3, 8, 9] rfl ?_
        exact sl_436 C (by omega) (cl_mono hA2 (by omega)) (by omega) (by omega) (fun ad2 σ2 w3 c2 cells slots g1 g2 g3 => ih (i + 1) ad2 σ2 w3 c2 cells slots (by omega) (by rw [(by omega : 11 + (i + 1) = 12 + i)]; exact g1) g2 g3)
    · skip
      have hr0 := k_neg er
      have hr1 : ¬ (0 ≤ r) := cl_nn er
      refine g_if_ge 361 375 C dL_law_358 (by decide) rfl (T := none) (E := some ()) (v := ()) (if_pos hr0) (fun h => by cases h) (fun _ => ?_)
      refine g_aload 363 C dL_law_361 rfl rfl ?_
      refine g_aload_n 364 C dL_law_363 rfl rfl rfl ?_
      refine lk_told 367 C (sl_ZJ jK jV jT b L xs) (sl_Zb jK jV jT b L xs) gL_law_L_told ⟨(Nat.le_of_ble_eq_true rfl), (Nat.le_of_ble_eq_true rfl)⟩ (Nat.le_of_ble_eq_true rfl) hA2 (by omega) ⟨by show _ ≤ 600000; omega, by show _ ≤ 7302250; omega⟩ dL_law_364 rfl (fun ad5 σ5 s2 v2 t2 h5 hA5 hx5 ht2 => ?_)
      rw [← h5]
      refine ls_perm (k_p3 _ _ _) ?_
      refine ls_eq 370 C (sl_ZJ jK jV jT b L xs) gL_law_J0_equals_9ea2d ⟨(Nat.le_of_ble_eq_true rfl), (Nat.le_of_ble_eq_true rfl)⟩ (Nat.le_of_ble_eq_true rfl) (lt_lt hA5) (fun k hk => (ht1 k hk).2.trans (ht2 k hk).2.symm) ⟨by show _ ≤ 600000; omega, by show _ ≤ 7302250; omega⟩ dL_law_367 rfl ?_
      refine g_if_ne 373 375 C dL_law_370 (by decide) rfl (T := some ()) (E := none) (v := ()) (if_neg (by decide)) (fun _ => ?_) (fun h => by cases h)
      refine g_iload 377 C dL_law_375 rfl rfl ?_
      refine g_if_ge 380 385 C dL_law_377 (by decide) rfl (T := none) (E := some ()) (v := ()) (if_pos hr0) (fun h => by cases h) (fun _ => ?_)
      refine g_iload 382 C dL_law_380 rfl rfl ?_
      refine g_goto 394 C dL_law_382 (by decide) ?_
      refine g_istore 396 C [(7, .int (nb c)), (9, .int r), (8, .ref s1), (2, .int (nb (2 * i + 2))), (6, .ref q), (5, .int (nb yy)), (4, .int (nb i)), (3, .int 32), (1, .ref (ad5 0)), (0, .ref b)] dL_law_394 rfl (by decide) rfl ?_
      refine g_iload 398 C dL_law_396 rfl rfl ?_
      refine g_if_lt 401 436 C dL_law_398 (by decide) rfl (T := some ()) (E := none) (v := ()) (if_neg hr1) (fun _ => ?_) (fun h => by cases h)
      refine ls_drop (X2 := bx_W q u ++ []) (ww_S Y s1 v1 0 0 (lt_w w).1 t1 ++ ww_S Y s2 v2 0 0 (lt_w w).1 t2) (List.Perm.refl _) ?_
      refine g_lv (lv2 := [(7, .int (nb c)), (6, .ref q), (4, .int (nb i)), (3, .int 32), (2, .int (nb (2 * i + 2))), (1, .ref (ad5 0)), (0, .ref b)]) [0, 4, 6, 7, 3, 8, 9] rfl ?_
      exact sl_436 C (by omega) (cl_mono hA5 (by omega)) (by omega) (by omega) (fun ad2 σ2 w3 c2 cells slots g1 g2 g3 => ih (i + 1) ad2 σ2 w3 c2 cells slots (by omega) (by rw [(by omega : 11 + (i + 1) = 12 + i)]; exact g1) g2 g3)
set_option maxHeartbeats 8000000 in
set_option maxRecDepth 100000 in
theorem sl_begin (hL : L ≤ 260) (C : sg_C p room_1 (s.setDrawn s.drawn) m #[Value.ref b] meth cd cL_law 10 RL wsL_law D Y (sl_Z jK jV jT b L xs) (sl_A s)) (hr : meth.sig.returnType = ret) : sg_G p l e room_1 (s.setDrawn s.drawn) m #[Value.ref b] below meth cd D (sl_A s) 10 0 0 (lw_Z below #[Value.ref b] s) 0 [(0, .ref b)] [] [] := by
  refine g_new 3 C (C1 := RX7) (T := TX7) (N := 10) (ci := 9) [.null, .null, .null, .null, .int 0, .null, .null, .null, .null, .int 0] tyX7 tyX7_ok (fun w hw => (gp_wsX70 w hw).1) ksL_law_o1 ksL_law_o2 ksL_law_o3 rfl (by decide +kernel) (Nat.le_of_ble_eq_true rfl) (Nat.le_of_ble_eq_true rfl) dL_law_0 rfl (fun q1 => ?_)
  refine g_dup 4 C dL_law_3 rfl rfl ?_
  refine g_XIv 7 C (ret := none) (As := []) (n0 := 0) (st := [.ref q1]) (c_X7_init l C.2.2.2.2.2.2.2.1 (sl_ZN jK jV jT b L xs) (sl_ZJ jK jV jT b L xs) (h0 := q1)) gL_law_X7_init ksL_law_o3 ksL_law_o4 ksL_law_o5 rfl ⟨by decide, by decide, by decide +kernel⟩ rfl ⟨(Nat.le_of_ble_eq_true rfl), (Nat.le_of_ble_eq_true rfl)⟩ sg_cutEnd rfl (Nat.le_of_ble_eq_true rfl) ⟨(Nat.le_of_ble_eq_true rfl), (Nat.le_of_ble_eq_true rfl)⟩ dL_law_4 rfl rfl (fun ad hu1 => ?_)
  have hu1 : ad 0 = q1 := hu1
  subst hu1
  refine g_perm (w2 := sl_w Y ad iX7 []) (List.Perm.of_eq rfl) ?_
  refine g_astore_n 8 C [(1, .ref (ad 0)), (0, .ref b)] dL_law_7 rfl rfl (by decide) rfl ?_
  refine g_iconst 9 C (nb 0) dL_law_8 rfl (by decide) ?_
  refine g_istore_n 10 C [(2, .int (nb 0)), (1, .ref (ad 0)), (0, .ref b)] dL_law_9 rfl rfl (by decide) rfl ?_
  refine g_aload_n 11 C dL_law_10 rfl rfl rfl ?_
  have hE := st_E
  obtain ⟨σ1, e1, hE⟩ := st_bE hE
  cases (st_un).symm.trans e1
  refine lc_undo 14 C gL_law_X7_undo ⟨(Nat.le_of_ble_eq_true rfl), (Nat.le_of_ble_eq_true rfl)⟩ (Nat.le_of_ble_eq_true rfl) st_un ⟨(Nat.le_of_ble_eq_true rfl), (Nat.le_of_ble_eq_true rfl)⟩ dL_law_11 rfl ?_
  rw [mg_self]
  refine g_bipush 16 C (-3) dL_law_14 rfl (by decide) ?_
  refine g_icmp_ne 19 285 C dL_law_16 (by decide) rfl (T := none) (E := some ()) (v := ()) (if_pos (by decide)) (fun h => by cases h) (fun _ => ?_)
  refine g_aload_n 20 C dL_law_19 rfl rfl rfl ?_
  obtain ⟨σ2, e2, hE⟩ := st_bE hE
  cases (st_re).symm.trans e2
  refine lc_restore 23 C gL_law_X7_restore ⟨(Nat.le_of_ble_eq_true rfl), (Nat.le_of_ble_eq_true rfl)⟩ (Nat.le_of_ble_eq_true rfl) st_re ⟨(Nat.le_of_ble_eq_true rfl), (Nat.le_of_ble_eq_true rfl)⟩ dL_law_20 rfl ?_
  rw [mg_self]
  refine g_bipush 25 C (-3) dL_law_23 rfl (by decide) ?_
  refine g_icmp_ne 28 285 C dL_law_25 (by decide) rfl (T := none) (E := some ()) (v := ()) (if_pos (by decide)) (fun h => by cases h) (fun _ => ?_)
  refine g_aload_n 29 C dL_law_28 rfl rfl rfl ?_
  refine g_iconst 30 C (nb 0) dL_law_29 rfl (by decide) ?_
  refine g_iconst 31 C (nb 0) dL_law_30 rfl (by decide) ?_
  obtain ⟨e3, hE⟩ := st_aE hE
  refine lc_reason 34 C gL_law_X7_reason ⟨(Nat.le_of_ble_eq_true rfl), (Nat.le_of_ble_eq_true rfl)⟩ (Nat.le_of_ble_eq_true rfl) e3 ⟨(Nat.le_of_ble_eq_true rfl), (Nat.le_of_ble_eq_true rfl)⟩ dL_law_31 rfl ?_
  refine g_bipush 36 C (-3) dL_law_34 rfl (by decide) ?_
  refine g_icmp_ne 39 285 C dL_law_36 (by decide) rfl (T := none) (E := some ()) (v := ()) (if_pos (by decide)) (fun h => by cases h) (fun _ => ?_)
  refine g_aload_n 40 C dL_law_39 rfl rfl rfl ?_
  refine g_iconst 41 C (nb 2) dL_law_40 rfl (by decide) ?_
  refine g_iconst 42 C (nb 0) dL_law_41 rfl (by decide) ?_
  obtain ⟨e4, hE⟩ := st_aE hE
  refine lc_reason 45 C gL_law_X7_reason ⟨(Nat.le_of_ble_eq_true rfl), (Nat.le_of_ble_eq_true rfl)⟩ (Nat.le_of_ble_eq_true rfl) e4 ⟨(Nat.le_of_ble_eq_true rfl), (Nat.le_of_ble_eq_true rfl)⟩ dL_law_42 rfl ?_
  refine g_bipush 47 C (-2) dL_law_45 rfl (by decide) ?_
  refine g_icmp_ne 50 285 C dL_law_47 (by decide) rfl (T := none) (E := some ()) (v := ()) (if_pos (by decide)) (fun h => by cases h) (fun _ => ?_)
  refine g_aload_n 51 C dL_law_50 rfl rfl rfl ?_
  obtain ⟨e5, hE⟩ := st_aE hE
  refine lc_fault 54 C gL_law_X7_fault ⟨(Nat.le_of_ble_eq_true rfl), (Nat.le_of_ble_eq_true rfl)⟩ (Nat.le_of_ble_eq_true rfl) e5 ⟨(Nat.le_of_ble_eq_true rfl), (Nat.le_of_ble_eq_true rfl)⟩ dL_law_51 rfl ?_
  refine g_bipush 56 C (-3) dL_law_54 rfl (by decide) ?_
  refine g_icmp_ne 59 285 C dL_law_56 (by decide) rfl (T := none) (E := some ()) (v := ()) (if_pos (by decide)) (fun h => by cases h) (fun _ => ?_)
  refine g_aload_n 60 C dL_law_59 rfl rfl rfl ?_
  obtain ⟨σ6, e6, hE⟩ := st_bE hE
  have A6 := st_rd e6
  refine lc_read 63 C (sl_ZJ jK jV jT b L xs) gL_law_X7_read ⟨(Nat.le_of_ble_eq_true rfl), (Nat.le_of_ble_eq_true rfl)⟩ (Nat.le_of_ble_eq_true rfl) e6 ⟨(Nat.le_of_ble_eq_true rfl), (Nat.le_of_ble_eq_true rfl)⟩ dL_law_60 rfl ?_
  refine g_bipush 65 C (-2) dL_law_63 rfl (by decide) ?_
  refine g_icmp_ne 68 285 C dL_law_65 (by decide) rfl (T := none) (E := some ()) (v := ()) (if_pos (by decide)) (fun h => by cases h) (fun _ => ?_)
  refine g_aload_n 69 C dL_law_68 rfl rfl rfl ?_
  obtain ⟨e7, hE⟩ := st_aE hE
  refine lc_fault 72 C gL_law_X7_fault ⟨(Nat.le_of_ble_eq_true rfl), (Nat.le_of_ble_eq_true rfl)⟩ (Nat.le_of_ble_eq_true rfl) e7 ⟨(Nat.le_of_ble_eq_true rfl), (Nat.le_of_ble_eq_true rfl)⟩ dL_law_69 rfl ?_
  refine g_if_ne 75 285 C dL_law_72 (by decide) rfl (T := none) (E := some ()) (v := ()) (if_pos (by decide)) (fun h => by cases h) (fun _ => ?_)
  refine g_aload_n 76 C dL_law_75 rfl rfl rfl ?_
  refine g_iconst 77 C (nb 0) dL_law_76 rfl (by decide) ?_
  obtain ⟨e8, hE⟩ := st_aE hE
  refine lc_written 80 C (sl_ZJ jK jV jT b L xs) gL_law_X7_written ⟨(Nat.le_of_ble_eq_true rfl), (Nat.le_of_ble_eq_true rfl)⟩ (Nat.le_of_ble_eq_true rfl) e8 ⟨(Nat.le_of_ble_eq_true rfl), (Nat.le_of_ble_eq_true rfl)⟩ dL_law_77 rfl ?_
  refine g_iconst 81 C (-1) dL_law_80 rfl (by decide) ?_
  refine g_icmp_ne 84 285 C dL_law_81 (by decide) rfl (T := none) (E := some ()) (v := ()) (if_pos (by decide)) (fun h => by cases h) (fun _ => ?_)
  refine g_aload_n 85 C dL_law_84 rfl rfl rfl ?_
  refine g_iconst 86 C (nb 0) dL_law_85 rfl (by decide) ?_
  refine g_iconst 87 C (nb 5) dL_law_86 rfl (by decide) ?_
  refine g_iconst 88 C (nb 1) dL_law_87 rfl (by decide) ?_
  obtain ⟨σ9, e9, hE⟩ := st_bE hE
  obtain ⟨r9x, σ9x, f9, g9⟩ := kc_treaty A6 (by decide) 0 5 1
  obtain ⟨A9, F9⟩ := st_ref g9 f9 e9 (by decide)
  refine lc_treaty 91 C gL_law_X7_treaty ⟨(Nat.le_of_ble_eq_true rfl), (Nat.le_of_ble_eq_true rfl)⟩ (Nat.le_of_ble_eq_true rfl) e9 ⟨(Nat.le_of_ble_eq_true rfl), (Nat.le_of_ble_eq_true rfl)⟩ dL_law_88 rfl ?_
  rw [kb_ch F9]
  refine g_iconst 92 C (-1) dL_law_91 rfl (by decide) ?_
  refine g_icmp_ne 95 285 C dL_law_92 (by decide) rfl (T := none) (E := some ()) (v := ()) (if_pos (by decide)) (fun h => by cases h) (fun _ => ?_)
  refine g_aload_n 96 C dL_law_95 rfl rfl rfl ?_
  refine g_iconst 97 C (nb 2) dL_law_96 rfl (by decide) ?_
  refine g_iconst 98 C (nb 2) dL_law_97 rfl (by decide) ?_
  refine g_iconst 99 C (nb 1) dL_law_98 rfl (by decide) ?_
  obtain ⟨σ10, e10, hE⟩ := st_bE hE
  obtain ⟨r10x, σ10x, f10, g10⟩ := kc_treaty A9 (by decide) 2 2 1
  obtain ⟨A10, F10⟩ := st_ref g10 f10 e10 (by decide)
  refine lc_treaty 102 C gL_law_X7_treaty ⟨(Nat.le_of_ble_eq_true rfl), (Nat.le_of_ble_eq_true rfl)⟩ (Nat.le_of_ble_eq_true rfl) e10 ⟨(Nat.le_of_ble_eq_true rfl), (Nat.le_of_ble_eq_true rfl)⟩ dL_law_99 rfl ?_
  rw [kb_ch F10]
  refine g_bipush 104 C (-5) dL_law_102 rfl (by decide) ?_
  refine g_icmp_ne 107 285 C dL_law_104 (by decide) rfl (T := none) (E := some ()) (v := ()) (if_pos (by decide)) (fun h => by cases h) (fun _ => ?_)
  refine g_aload_n 108 C dL_law_107 rfl rfl rfl ?_
  refine g_iconst 109 C (nb 0) dL_law_108 rfl (by decide) ?_
  refine g_iconst 110 C (nb 0) dL_law_109 rfl (by decide) ?_
  obtain ⟨e11, hE⟩ := st_aE hE
  refine lc_reason 113 C gL_law_X7_reason ⟨(Nat.le_of_ble_eq_true rfl), (Nat.le_of_ble_eq_true rfl)⟩ (Nat.le_of_ble_eq_true rfl) e11 ⟨(Nat.le_of_ble_eq_true rfl), (Nat.le_of_ble_eq_true rfl)⟩ dL_law_110 rfl ?_
  refine g_bipush 115 C (nb 8) dL_law_113 rfl (by decide) ?_
  refine g_icmp_ne 118 285 C dL_law_115 (by decide) rfl (T := none) (E := some ()) (v := ()) (if_pos (by decide)) (fun h => by cases h) (fun _ => ?_)
  refine g_aload_n 119 C dL_law_118 rfl rfl rfl ?_
  refine g_iconst 120 C (nb 0) dL_law_119 rfl (by decide) ?_
  refine g_iconst 121 C (nb 1) dL_law_120 rfl (by decide) ?_
  obtain ⟨e12, hE⟩ := st_aE hE
  refine lc_reason 124 C gL_law_X7_reason ⟨(Nat.le_of_ble_eq_true rfl), (Nat.le_of_ble_eq_true rfl)⟩ (Nat.le_of_ble_eq_true rfl) e12 ⟨(Nat.le_of_ble_eq_true rfl), (Nat.le_of_ble_eq_true rfl)⟩ dL_law_121 rfl ?_
  refine g_iconst 125 C (nb 2) dL_law_124 rfl (by decide) ?_
  refine g_icmp_ne 128 285 C dL_law_125 (by decide) rfl (T := none) (E := some ()) (v := ()) (if_pos (by decide)) (fun h => by cases h) (fun _ => ?_)
  refine g_aload_n 129 C dL_law_128 rfl rfl rfl ?_
  refine g_iconst 130 C (nb 1) dL_law_129 rfl (by decide) ?_
  refine g_iconst 131 C (nb 0) dL_law_130 rfl (by decide) ?_
  obtain ⟨e13, hE⟩ := st_aE hE
  refine lc_reason 134 C gL_law_X7_reason ⟨(Nat.le_of_ble_eq_true rfl), (Nat.le_of_ble_eq_true rfl)⟩ (Nat.le_of_ble_eq_true rfl) e13 ⟨(Nat.le_of_ble_eq_true rfl), (Nat.le_of_ble_eq_true rfl)⟩ dL_law_131 rfl ?_
  refine g_bipush 136 C (-6) dL_law_134 rfl (by decide) ?_
  refine g_icmp_ne 139 285 C dL_law_136 (by decide) rfl (T := none) (E := some ()) (v := ()) (if_pos (by decide)) (fun h => by cases h) (fun _ => ?_)
  refine g_aload_n 140 C dL_law_139 rfl rfl rfl ?_
  refine g_iconst 141 C (nb 0) dL_law_140 rfl (by decide) ?_
  refine g_iconst 142 C (nb 1) dL_law_141 rfl (by decide) ?_
  refine g_iconst 143 C (nb 0) dL_law_142 rfl (by decide) ?_
  obtain ⟨σ14, e14, hE⟩ := st_bE hE
  obtain ⟨r14x, σ14x, f14, g14⟩ := kc_treaty A10 (by decide) 0 1 0
  obtain ⟨A14, F14⟩ := st_ref g14 f14 e14 (by decide)
  refine lc_treaty 146 C gL_law_X7_treaty ⟨(Nat.le_of_ble_eq_true rfl), (Nat.le_of_ble_eq_true rfl)⟩ (Nat.le_of_ble_eq_true rfl) e14 ⟨(Nat.le_of_ble_eq_true rfl), (Nat.le_of_ble_eq_true rfl)⟩ dL_law_143 rfl ?_
  rw [kb_ch F14]
  refine g_bipush 148 C (-5) dL_law_146 rfl (by decide) ?_
  refine g_icmp_ne 151 285 C dL_law_148 (by decide) rfl (T := none) (E := some ()) (v := ()) (if_pos (by decide)) (fun h => by cases h) (fun _ => ?_)
  refine g_aload_n 152 C dL_law_151 rfl rfl rfl ?_
  refine g_iconst 153 C (nb 0) dL_law_152 rfl (by decide) ?_
  refine g_iconst 154 C (nb 1) dL_law_153 rfl (by decide) ?_
  obtain ⟨e15, hE⟩ := st_aE hE
  refine lc_reason 157 C gL_law_X7_reason ⟨(Nat.le_of_ble_eq_true rfl), (Nat.le_of_ble_eq_true rfl)⟩ (Nat.le_of_ble_eq_true rfl) e15 ⟨(Nat.le_of_ble_eq_true rfl), (Nat.le_of_ble_eq_true rfl)⟩ dL_law_154 rfl ?_
  refine g_if_ne 160 285 C dL_law_157 (by decide) rfl (T := none) (E := some ()) (v := ()) (if_pos (by decide)) (fun h => by cases h) (fun _ => ?_)
  refine g_aload_n 161 C dL_law_160 rfl rfl rfl ?_
  refine g_iconst 162 C (nb 0) dL_law_161 rfl (by decide) ?_
  refine g_iconst 163 C (nb 0) dL_law_162 rfl (by decide) ?_
  refine g_iconst 164 C (nb 1) dL_law_163 rfl (by decide) ?_
  obtain ⟨σ16, e16, hE⟩ := st_bE hE
  obtain ⟨r16x, σ16x, f16, g16⟩ := kc_credit A14 (by decide) 0 0 1
  obtain ⟨A16, F16⟩ := st_ref g16 f16 e16 (by decide)
  refine lc_credit 167 C gL_law_X7_credit ⟨(Nat.le_of_ble_eq_true rfl), (Nat.le_of_ble_eq_true rfl)⟩ (Nat.le_of_ble_eq_true rfl) e16 ⟨(Nat.le_of_ble_eq_true rfl), (Nat.le_of_ble_eq_true rfl)⟩ dL_law_164 rfl ?_
  rw [kb_ch F16]
  refine g_bipush 169 C (-2) dL_law_167 rfl (by decide) ?_
  refine g_icmp_ne 172 285 C dL_law_169 (by decide) rfl (T := none) (E := some ()) (v := ()) (if_pos (by decide)) (fun h => by cases h) (fun _ => ?_)
  refine g_aload_n 173 C dL_law_172 rfl rfl rfl ?_
  refine g_iconst 174 C (nb 0) dL_law_173 rfl (by decide) ?_
  obtain ⟨σ17, e17, hE⟩ := st_bE hE
  obtain ⟨r17x, σ17x, f17, g17⟩ := kc_repay A16 (by decide) 0
  obtain ⟨A17, F17⟩ := st_ref g17 f17 e17 (by decide)
  refine lc_repay 177 C gL_law_X7_repay ⟨(Nat.le_of_ble_eq_true rfl), (Nat.le_of_ble_eq_true rfl)⟩ (Nat.le_of_ble_eq_true rfl) e17 ⟨(Nat.le_of_ble_eq_true rfl), (Nat.le_of_ble_eq_true rfl)⟩ dL_law_174 rfl ?_
  rw [kb_ch F17]
  refine g_iconst 178 C (-1) dL_law_177 rfl (by decide) ?_
  refine g_icmp_ne 181 285 C dL_law_178 (by decide) rfl (T := none) (E := some ()) (v := ()) (if_pos (by decide)) (fun h => by cases h) (fun _ => ?_)
  refine g_aload_n 182 C dL_law_181 rfl rfl rfl ?_
  refine g_iconst 183 C (nb 0) dL_law_182 rfl (by decide) ?_
  refine g_iconst 184 C (nb 1) dL_law_183 rfl (by decide) ?_
  obtain ⟨σ18, e18, hE⟩ := st_bE hE
  obtain ⟨r18x, σ18x, f18, g18⟩ := kc_bail A17 (by decide) 0 1
  obtain ⟨A18, F18⟩ := st_ref g18 f18 e18 (by decide)
  refine lc_bail 187 C gL_law_X7_bail ⟨(Nat.le_of_ble_eq_true rfl), (Nat.le_of_ble_eq_true rfl)⟩ (Nat.le_of_ble_eq_true rfl) e18 ⟨(Nat.le_of_ble_eq_true rfl), (Nat.le_of_ble_eq_true rfl)⟩ dL_law_184 rfl ?_
  rw [kb_ch F18]
  refine g_bipush 189 C (-5) dL_law_187 rfl (by decide) ?_
  refine g_icmp_ne 192 285 C dL_law_189 (by decide) rfl (T := none) (E := some ()) (v := ()) (if_pos (by decide)) (fun h => by cases h) (fun _ => ?_)
  refine g_aload_n 193 C dL_law_192 rfl rfl rfl ?_
  refine g_iconst 194 C (nb 0) dL_law_193 rfl (by decide) ?_
  refine g_iconst 195 C (nb 0) dL_law_194 rfl (by decide) ?_
  obtain ⟨e19, hE⟩ := st_aE hE
  refine lc_reason 198 C gL_law_X7_reason ⟨(Nat.le_of_ble_eq_true rfl), (Nat.le_of_ble_eq_true rfl)⟩ (Nat.le_of_ble_eq_true rfl) e19 ⟨(Nat.le_of_ble_eq_true rfl), (Nat.le_of_ble_eq_true rfl)⟩ dL_law_195 rfl ?_
  refine g_iconst 199 C (nb 5) dL_law_198 rfl (by decide) ?_
  refine g_icmp_ne 202 285 C dL_law_199 (by decide) rfl (T := none) (E := some ()) (v := ()) (if_pos (by decide)) (fun h => by cases h) (fun _ => ?_)
  refine g_aload_n 203 C dL_law_202 rfl rfl rfl ?_
  refine g_iconst 204 C (nb 0) dL_law_203 rfl (by decide) ?_
  refine g_iconst 205 C (nb 1) dL_law_204 rfl (by decide) ?_
  obtain ⟨e20, hE⟩ := st_aE hE
  refine lc_reason 208 C gL_law_X7_reason ⟨(Nat.le_of_ble_eq_true rfl), (Nat.le_of_ble_eq_true rfl)⟩ (Nat.le_of_ble_eq_true rfl) e20 ⟨(Nat.le_of_ble_eq_true rfl), (Nat.le_of_ble_eq_true rfl)⟩ dL_law_205 rfl ?_
  refine g_iconst 209 C (nb 2) dL_law_208 rfl (by decide) ?_
  refine g_icmp_ne 212 285 C dL_law_209 (by decide) rfl (T := none) (E := some ()) (v := ()) (if_pos (by decide)) (fun h => by cases h) (fun _ => ?_)
  refine g_aload_n 213 C dL_law_212 rfl rfl rfl ?_
  refine g_iconst 214 C (nb 5) dL_law_213 rfl (by decide) ?_
  refine g_iconst 215 C (nb 1) dL_law_214 rfl (by decide) ?_
  obtain ⟨σ21, e21, hE⟩ := st_bE hE
  obtain ⟨r21x, σ21x, f21, g21⟩ := kc_rain A18 (by decide) 5 1
  obtain ⟨A21, F21⟩ := st_ref g21 f21 e21 (by decide)
  refine lc_rain 218 C gL_law_X7_rain ⟨(Nat.le_of_ble_eq_true rfl), (Nat.le_of_ble_eq_true rfl)⟩ (Nat.le_of_ble_eq_true rfl) e21 ⟨(Nat.le_of_ble_eq_true rfl), (Nat.le_of_ble_eq_true rfl)⟩ dL_law_215 rfl ?_
  rw [kb_ch F21]
  refine g_iconst 219 C (-1) dL_law_218 rfl (by decide) ?_
  refine g_icmp_ne 222 285 C dL_law_219 (by decide) rfl (T := none) (E := some ()) (v := ()) (if_pos (by decide)) (fun h => by cases h) (fun _ => ?_)
  refine g_aload_n 223 C dL_law_222 rfl rfl rfl ?_
  refine g_iconst 224 C (nb 0) dL_law_223 rfl (by decide) ?_
  refine g_bipush 226 C (nb 7) dL_law_224 rfl (by decide) ?_
  obtain ⟨σ22, e22, hE⟩ := st_bE hE
  cases (cl_mostB _).symm.trans e22
  simp only [mg_self] at hE
  refine lc_most 229 C gL_law_X7_most ⟨(Nat.le_of_ble_eq_true rfl), (Nat.le_of_ble_eq_true rfl)⟩ (Nat.le_of_ble_eq_true rfl) (cl_mostB _) ⟨(Nat.le_of_ble_eq_true rfl), (Nat.le_of_ble_eq_true rfl)⟩ dL_law_226 rfl ?_
  rw [mg_self]
  refine g_bipush 231 C (-2) dL_law_229 rfl (by decide) ?_
  refine g_icmp_ne 234 285 C dL_law_231 (by decide) rfl (T := none) (E := some ()) (v := ()) (if_pos (by decide)) (fun h => by cases h) (fun _ => ?_)
  refine g_aload_n 235 C dL_law_234 rfl rfl rfl ?_
  refine g_iconst 236 C (nb 0) dL_law_235 rfl (by decide) ?_
  refine g_bipush 238 C (nb 25) dL_law_236 rfl (by decide) ?_
  refine g_iconst 239 C (nb 0) dL_law_238 rfl (by decide) ?_
  obtain ⟨σ23, e23, hE⟩ := st_bE hE
  cases (cl_wouldB _).symm.trans e23
  simp only [mg_self] at hE
  refine lc_would 242 C gL_law_X7_would ⟨(Nat.le_of_ble_eq_true rfl), (Nat.le_of_ble_eq_true rfl)⟩ (Nat.le_of_ble_eq_true rfl) (cl_wouldB _) ⟨(Nat.le_of_ble_eq_true rfl), (Nat.le_of_ble_eq_true rfl)⟩ dL_law_239 rfl ?_
  rw [mg_self]
  refine g_bipush 244 C (-2) dL_law_242 rfl (by decide) ?_
  refine g_icmp_ne 247 285 C dL_law_244 (by decide) rfl (T := none) (E := some ()) (v := ()) (if_pos (by decide)) (fun h => by cases h) (fun _ => ?_)
  refine g_aload_n 248 C dL_law_247 rfl rfl rfl ?_
  refine lw_mean 251 C gL_law_X7_meanSun ⟨(Nat.le_of_ble_eq_true rfl), (Nat.le_of_ble_eq_true rfl)⟩ (Nat.le_of_ble_eq_true rfl) A21 ⟨(Nat.le_of_ble_eq_true rfl), (Nat.le_of_ble_eq_true rfl)⟩ dL_law_248 rfl ?_
  refine g_ldc2d 254 C ksL_law_cd dL_law_251 rfl ?_
  refine g_dcmp 255 C dL_law_254 rfl ?_
  refine g_if_ne 258 285 C dL_law_255 (by decide) rfl (T := none) (E := some ()) (v := ()) (if_pos k_mean0) (fun h => by cases h) (fun _ => ?_)
  refine g_aload_n 259 C dL_law_258 rfl rfl rfl ?_
  refine lw_share 262 C gL_law_X7_paidShare ⟨(Nat.le_of_ble_eq_true rfl), (Nat.le_of_ble_eq_true rfl)⟩ (Nat.le_of_ble_eq_true rfl) A21 ⟨(Nat.le_of_ble_eq_true rfl), (Nat.le_of_ble_eq_true rfl)⟩ dL_law_259 rfl ?_
  refine g_fconst0 263 C dL_law_262 rfl ?_
  refine g_fcmp 264 C dL_law_263 rfl ?_
  refine g_if_ne 267 285 C dL_law_264 (by decide) rfl (T := none) (E := some ()) (v := ()) (if_pos k_share0) (fun h => by cases h) (fun _ => ?_)
  refine g_aload_n 268 C dL_law_267 rfl rfl rfl ?_
  refine g_bipush 270 C (nb 16) dL_law_268 rfl (by decide) ?_
  obtain ⟨e24, hE⟩ := st_aE hE
  refine lc_account 273 C gL_law_X7_account ⟨(Nat.le_of_ble_eq_true rfl), (Nat.le_of_ble_eq_true rfl)⟩ (Nat.le_of_ble_eq_true rfl) e24 ⟨(Nat.le_of_ble_eq_true rfl), (Nat.le_of_ble_eq_true rfl)⟩ dL_law_270 rfl ?_
  refine g_bipush 275 C (-2) dL_law_273 rfl (by decide) ?_
  refine g_icmp_ne 278 285 C dL_law_275 (by decide) rfl (T := none) (E := some ()) (v := ()) (if_pos (by decide)) (fun h => by cases h) (fun _ => ?_)
  refine g_aload_n 279 C dL_law_278 rfl rfl rfl ?_
  obtain ⟨σ25, e25, hE⟩ := st_bE hE
  obtain ⟨σc, ec, fc⟩ := ce_counted A21
  cases ec.symm.trans e25
  refine lc_isCounted 282 C gL_law_X7_isCounted ⟨(Nat.le_of_ble_eq_true rfl), (Nat.le_of_ble_eq_true rfl)⟩ (Nat.le_of_ble_eq_true rfl) ec ⟨(Nat.le_of_ble_eq_true rfl), (Nat.le_of_ble_eq_true rfl)⟩ dL_law_279 rfl ?_
  have A25 := cl_Af A21 (mg_f1 (b := kb_TN) fc)
  refine g_if_ne 285 287 C dL_law_282 (by decide) rfl (T := some ()) (E := none) (v := ()) (if_neg (by decide)) (fun _ => ?_) (fun h => by cases h)
  refine g_aload_n 288 C dL_law_287 rfl rfl rfl ?_
  refine lk_stock 291 C A25 hE gL_law_L_stock ⟨(Nat.le_of_ble_eq_true rfl), (Nat.le_of_ble_eq_true rfl)⟩ (Nat.le_of_ble_eq_true rfl) ⟨(Nat.le_of_ble_eq_true rfl), (Nat.le_of_ble_eq_true rfl)⟩ dL_law_288 rfl (fun σz wz cz hAz => ?_)
  refine g_istore_n 292 C [(3, .int 32), (2, .int (nb 0)), (1, .ref (ad 0)), (0, .ref b)] dL_law_291 rfl rfl (by decide) rfl ?_
  refine g_iconst 293 C (nb 0) dL_law_292 rfl (by decide) ?_
  refine g_istore 295 C [(4, .int (nb 0)), (3, .int 32), (2, .int (nb 0)), (1, .ref (ad 0)), (0, .ref b)] dL_law_293 rfl (by decide) rfl ?_
  refine g_lv (lv2 := [(4, .int (nb 0)), (3, .int 32), (2, .int (nb 0)), (1, .ref (ad 0)), (0, .ref b)]) [0, 1, 2, 3, 4] rfl ?_
  exact sl_loop hL C hr 14 0 ad σz wz cz _ _ (by omega) hAz (Nat.le_of_ble_eq_true rfl) (Nat.le_of_ble_eq_true rfl)
end SLQ
/-- from the entry, for every script, the law comes to its end with true -/
theorem whole_start {p : Program} {e : Env} {s : State} {m : MethodId} {below : List Frame} {meth : Method} {c : Code} (l : Launch) (hflags : l.flags = flags0) {b L : Nat} {xs : Nat → Int32} (hL : L ≤ 260) (C0 : lw_At p s m meth c b L xs) : W p l e room_1 s m #[Value.ref b] below meth c s.heap [] 0 0 (lw_Z below #[Value.ref b] s) (entryFrame m ([Value.ref b] : List Value).toArray 10) := by
  obtain ⟨hx, hb, hr, hml, hown, hts0, hX, hbl, hlocks, hgv⟩ := id C0
  obtain ⟨D, Y, jK, jV, jT, hK, hZ⟩ := sl_entry hX hbl hL hts0 hgv
  have K : sg_C p room_1 (s.setDrawn s.drawn) m #[Value.ref b] meth c cL_law 10 RL wsL_law D Y (sl_Z jK jV jT b L xs) (sl_A s) := ⟨hx, hb, hml, hown, dr_words (wl_hts hts0) s.drawn, hK, fun q h => h, sl_Zok jK jV jT b L xs, (sl_Zok jK jV jT b L xs).1 _ s (s.setDrawn s.drawn) s.heap (State.WarmedH.refl s) hZ, hlocks⟩
  refine W.base ?_
  have hl := lv_entry ([.ref b]) (n := 10) (Nat.le_of_ble_eq_true rfl)
  rw [lg_entry_eq]
  exact sl_begin hL K hr s.heap [] _ (fun k q h => by simp at h) ⟨fun i j p q h => by simp at h, fun k q h => by simp at h⟩ va_S.rf hl
