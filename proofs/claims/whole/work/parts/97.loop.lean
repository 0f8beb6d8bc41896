/-! THE LAW: its loop, and its start -/
theorem sl_sw (v : Int32) : (∃ c : Nat, c < 33 ∧ v = nI c) ∨ (v.toInt < 0 ∨ 32 < v.toInt) := by
  by_cases h : 0 ≤ v.toInt ∧ v.toInt ≤ 32
  · refine Or.inl ⟨v.toInt.toNat, by omega, ?_⟩
    apply Int32.toInt_inj.mp
    rw [nI_toInt (by omega)]
    omega
  · exact Or.inr (by omega)
theorem sl_lt33 {c : Nat} (h : c < 33) : c = 0 ∨ c = 1 ∨ c = 2 ∨ c = 3 ∨ c = 4 ∨ c = 5 ∨ c = 6 ∨ c = 7 ∨ c = 8 ∨ c = 9 ∨ c = 10 ∨ c = 11 ∨ c = 12 ∨ c = 13 ∨ c = 14 ∨ c = 15 ∨ c = 16 ∨ c = 17 ∨ c = 18 ∨ c = 19 ∨ c = 20 ∨ c = 21 ∨ c = 22 ∨ c = 23 ∨ c = 24 ∨ c = 25 ∨ c = 26 ∨ c = 27 ∨ c = 28 ∨ c = 29 ∨ c = 30 ∨ c = 31 ∨ c = 32 := by omega
theorem sl_cond {i L : Nat} (hi : i ≤ L) (hL : L ≤ 2048) : (i + 4 ≤ L → nI i ≤ nI L - 4) ∧ (¬ i + 4 ≤ L → ¬ nI i ≤ nI L - 4) := by
  by_cases h4 : 4 ≤ L
  · obtain ⟨k, rfl⟩ : ∃ k, L = k + 4 := ⟨L - 4, by omega⟩
    have e : nI (k + 4) - 4 = nI k := by rw [← sl_4, Int32.add_sub_cancel]
    rw [e]
    refine ⟨fun h => nI_le (by omega) (by omega), fun h hc => ?_⟩
    rw [Int32.le_iff_toInt_le, nI_toInt (by omega), nI_toInt (by omega)] at hc
    omega
  · refine ⟨fun h => absurd h (by omega), fun _ hc => ?_⟩
    rw [Int32.le_iff_toInt_le, nI_toInt (by omega)] at hc
    rcases (by omega : L = 0 ∨ L = 1 ∨ L = 2 ∨ L = 3) with rfl | rfl | rfl | rfl
    · have : (nI 0 - 4).toInt = -4 := by decide
      omega
    · have : (nI 1 - 4).toInt = -3 := by decide
      omega
    · have : (nI 2 - 4).toInt = -2 := by decide
      omega
    · have : (nI 3 - 4).toInt = -1 := by decide
      omega
section SLL
variable {p : Program} {l : Launch} {e : Env} {s : State} {m : MethodId} {below : List Frame} {meth : Method} {c : Code} {D : va_G} {Y : Nat → ClassId} {jK jV jT : Nat → Nat} {b L : Nat} {xs : Nat → Int32}
theorem sl_end {d0 : Drawn} {cells slots : Nat} {lv : List (Nat × Value)} {w : va_W} (K : sl_Cx p s m meth c D Y jK jV jT b L xs) (hd0 : s.drawn.sameBut d0 lw_cs) (hr : meth.sig.returnType = ret) (h1 : cells ≤ 600000) (h2 : slots ≤ 7302249) : sg_G p l e room_1 (s.setDrawn d0) m #[Value.ref b] below meth c D (sl_A s) 8 cells slots (lw_Z below #[Value.ref b] s) 1108 lv [.int 1] w := by
  intro H locs ls hP hD hS hh
  have C := K.1 d0 hd0
  refine va_forget (fun q hq => hS.2.2 q hq) ?_
  refine W.widen (k := 600000) (n := 7302249) h1 h2 ?_
  exact lw_ret hd0 C.1 C.2.1 hr C.2.2.2.2.2.2.2.2.2 dL_law_1108
set_option maxHeartbeats 8000000 in
set_option maxRecDepth 100000 in
theorem sl_loop (K : sl_Cx p s m meth c D Y jK jV jT b L xs) (hr : meth.sig.returnType = ret) : ∀ (n i j : Nat) (d0 : Drawn) (ad ad8 : Nat → Nat) (σ τ : sg_S), s.drawn.sameBut d0 lw_cs → i = 4 * j → i ≤ L → L < i + n → gx_G (12 * j) σ τ → sl_G p l e s m below meth c D Y b d0 j i 18 ad σ ad8 τ := by
  have hL := K.2.2.2
  intro n
  induction n with
  | zero => exact fun i j d0 ad ad8 σ τ _ _ h1 h2 => absurd h2 (by omega)
  | succ n ih =>
    intro i j d0 ad ad8 σ τ hd0 hij hi hin hG
    have C := K.1 d0 hd0
    have hX : va_X b L xs (s.setDrawn d0) (s.setDrawn d0).heap := K.2.1
    have hbA : ¬ sl_A s b := Nat.not_le.mpr K.2.2.1
    refine g_iload_n 19 C dL_law_18 rfl rfl rfl ?_
    refine g_aload_n 20 C dL_law_19 rfl rfl rfl ?_
    refine g_slen 21 C hX K.2.2.1 hbA dL_law_20 rfl ?_
    refine g_iconst 22 C 4 dL_law_21 rfl (by decide) ?_
    refine g_isub 23 C dL_law_22 rfl ?_
    by_cases hc : i + 4 ≤ L
    · refine g_icmp_gt 26 1107 C dL_law_23 (by decide) rfl (T := none) (E := some ()) (v := ()) (if_pos ((sl_cond hi hL).1 hc)) (fun h => by cases h) (fun _ => ?_)
      refine g_aload_n 27 C dL_law_26 rfl rfl rfl ?_
      refine g_iload_n 28 C dL_law_27 rfl rfl rfl ?_
      refine g_sld 29 C hX K.2.2.1 hbA hL (by omega) dL_law_28 rfl ?_
      refine g_bipush 31 C 63 dL_law_29 rfl (by decide) ?_
      refine g_iand 32 C dL_law_31 rfl ?_
      have hj : j < 512 := by omega
      have kk : ∀ (d1 : Drawn) (ad2 : Nat → Nat) (σ2 τ2 : sg_S), s.drawn.sameBut d1 lw_cs → gx_G (12 * j + 12) σ2 τ2 → sl_G p l e s m below meth c D Y b d1 (j + 1) i 1101 ad2 σ2 ad8 τ2 := by
        intro d1 ad2 σ2 τ2 hd1 hG2
        have C := K.1 d1 hd1
        refine g_iinc 1104 C 3 (nI (i + 4)) [(3, .int (nI (i + 4))), (0, .ref b), (1, .ref (ad2 0)), (2, .ref (ad8 0))] dL_law_1101 rfl rfl (sl_4 i) (by decide) rfl ?_
        refine g_goto 18 C dL_law_1104 (by decide) ?_
        refine g_lv (lv2 := [(0, .ref b), (1, .ref (ad2 0)), (2, .ref (ad8 0)), (3, .int (nI (i + 4)))]) [1, 2, 3, 0] rfl ?_
        exact ih (i + 4) (j + 1) d1 ad2 ad8 σ2 τ2 hd1 (by omega) hc (by omega) (by rw [show 12 * (j + 1) = 12 * j + 12 from by omega]; exact hG2)
      have hm : 12 * j < 8800 := by omega
      rcases sl_sw (xs i &&& 63) with ⟨k, hk, hv⟩ | hv
      · rcases sl_lt33 hk with rfl | rfl | rfl | rfl | rfl | rfl | rfl | rfl | rfl | rfl | rfl | rfl | rfl | rfl | rfl | rfl | rfl | rfl | rfl | rfl | rfl | rfl | rfl | rfl | rfl | rfl | rfl | rfl | rfl | rfl | rfl | rfl | rfl
        · refine g_tsin (off := 148) C 180 (nI 0) dL_law_32 hv (by decide) (by decide) (by decide) (by decide) ?_
          exact sl_case0 K hd0 hj hc hG hm kk
        · refine g_tsin (off := 207) C 239 (nI 1) dL_law_32 hv (by decide) (by decide) (by decide) (by decide) ?_
          exact sl_case1 K hd0 hj hc hG hm kk
        · refine g_tsin (off := 250) C 282 (nI 2) dL_law_32 hv (by decide) (by decide) (by decide) (by decide) ?_
          exact sl_case2 K hd0 hj hc hG hm kk
        · refine g_tsin (off := 273) C 305 (nI 3) dL_law_32 hv (by decide) (by decide) (by decide) (by decide) ?_
          exact sl_case3 K hd0 hj hc hG hm kk
        · refine g_tsin (off := 306) C 338 (nI 4) dL_law_32 hv (by decide) (by decide) (by decide) (by decide) ?_
          exact sl_case4 K hd0 hj hc hG hm kk
        · refine g_tsin (off := 339) C 371 (nI 5) dL_law_32 hv (by decide) (by decide) (by decide) (by decide) ?_
          exact sl_case5 K hd0 hj hc hG hm kk
        · refine g_tsin (off := 362) C 394 (nI 6) dL_law_32 hv (by decide) (by decide) (by decide) (by decide) ?_
          exact sl_case6 K hd0 hj hc hG hm kk
        · refine g_tsin (off := 375) C 407 (nI 7) dL_law_32 hv (by decide) (by decide) (by decide) (by decide) ?_
          exact sl_case7 K hd0 hj hc hG hm kk
        · refine g_tsin (off := 408) C 440 (nI 8) dL_law_32 hv (by decide) (by decide) (by decide) (by decide) ?_
          exact sl_case8 K hd0 hj hc hG hm kk
        · refine g_tsin (off := 441) C 473 (nI 9) dL_law_32 hv (by decide) (by decide) (by decide) (by decide) ?_
          exact sl_case9 K hd0 hj hc hG hm kk
        · refine g_tsin (off := 464) C 496 (nI 10) dL_law_32 hv (by decide) (by decide) (by decide) (by decide) ?_
          exact sl_case10 K hd0 hj hc hG hm kk
        · refine g_tsin (off := 487) C 519 (nI 11) dL_law_32 hv (by decide) (by decide) (by decide) (by decide) ?_
          exact sl_case11 K hd0 hj hc hG hm kk
        · refine g_tsin (off := 510) C 542 (nI 12) dL_law_32 hv (by decide) (by decide) (by decide) (by decide) ?_
          exact sl_case12 K hd0 hj hc hG hm kk
        · refine g_tsin (off := 543) C 575 (nI 13) dL_law_32 hv (by decide) (by decide) (by decide) (by decide) ?_
          exact sl_case13 K hd0 hj hc hG hm kk
        · refine g_tsin (off := 586) C 618 (nI 14) dL_law_32 hv (by decide) (by decide) (by decide) (by decide) ?_
          exact sl_case14 K hd0 hj hc hG hm kk
        · refine g_tsin (off := 629) C 661 (nI 15) dL_law_32 hv (by decide) (by decide) (by decide) (by decide) ?_
          exact sl_case15 K hd0 hj hc hG hm kk
        · refine g_tsin (off := 672) C 704 (nI 16) dL_law_32 hv (by decide) (by decide) (by decide) (by decide) ?_
          exact sl_case16 K hd0 hj hc hG hm kk
        · refine g_tsin (off := 705) C 737 (nI 17) dL_law_32 hv (by decide) (by decide) (by decide) (by decide) ?_
          exact sl_case17 K hd0 hj hc hG hm kk
        · refine g_tsin (off := 728) C 760 (nI 18) dL_law_32 hv (by decide) (by decide) (by decide) (by decide) ?_
          exact sl_case18 K hd0 hj hc hG hm kk
        · refine g_tsin (off := 751) C 783 (nI 19) dL_law_32 hv (by decide) (by decide) (by decide) (by decide) ?_
          exact sl_case19 K hd0 hj hc hG hm kk
        · refine g_tsin (off := 764) C 796 (nI 20) dL_law_32 hv (by decide) (by decide) (by decide) (by decide) ?_
          exact sl_case20 K hd0 hj hc hG hm kk
        · refine g_tsin (off := 805) C 837 (nI 21) dL_law_32 hv (by decide) (by decide) (by decide) (by decide) ?_
          exact sl_case21 K hd0 hj hc hG hm kk
        · refine g_tsin (off := 848) C 880 (nI 22) dL_law_32 hv (by decide) (by decide) (by decide) (by decide) ?_
          exact sl_case22 K hd0 hj hc hG hm kk
        · refine g_tsin (off := 871) C 903 (nI 23) dL_law_32 hv (by decide) (by decide) (by decide) (by decide) ?_
          exact sl_case23 K hd0 hj hc hG hm kk
        · refine g_tsin (off := 894) C 926 (nI 24) dL_law_32 hv (by decide) (by decide) (by decide) (by decide) ?_
          exact sl_case24 K hd0 hj hc hG hm kk
        · refine g_tsin (off := 907) C 939 (nI 25) dL_law_32 hv (by decide) (by decide) (by decide) (by decide) ?_
          exact sl_case25 K hd0 hj hc hG hm kk
        · refine g_tsin (off := 930) C 962 (nI 26) dL_law_32 hv (by decide) (by decide) (by decide) (by decide) ?_
          exact sl_case26 K hd0 hj hc hG hm kk
        · refine g_tsin (off := 955) C 987 (nI 27) dL_law_32 hv (by decide) (by decide) (by decide) (by decide) ?_
          exact sl_case27 K hd0 hj hc hG hm kk
        · refine g_tsin (off := 968) C 1000 (nI 28) dL_law_32 hv (by decide) (by decide) (by decide) (by decide) ?_
          exact sl_case28 K hd0 hj hc hG hm kk
        · refine g_tsin (off := 981) C 1013 (nI 29) dL_law_32 hv (by decide) (by decide) (by decide) (by decide) ?_
          exact sl_case29 K hd0 hj hc hG hm kk
        · refine g_tsin (off := 1030) C 1062 (nI 30) dL_law_32 hv (by decide) (by decide) (by decide) (by decide) ?_
          exact sl_case30 K hd0 hj hc hG hm kk
        · refine g_tsin (off := 1043) C 1075 (nI 31) dL_law_32 hv (by decide) (by decide) (by decide) (by decide) ?_
          exact sl_case31 K hd0 hj hc hG hm kk
        · refine g_tsin (off := 1056) C 1088 (nI 32) dL_law_32 hv (by decide) (by decide) (by decide) (by decide) ?_
          exact sl_case32 K hd0 hj hc hG hm kk
      · refine g_tsout C 1101 dL_law_32 hv (by decide) ?_
        refine g_widen (200 + 60 * (j + 1)) (2300 + 10801 * (j + 1)) (by omega) (by omega) ?_
        exact kk d0 ad σ τ hd0 (gj_mono hG (by omega))
    · refine g_icmp_gt 26 1107 C dL_law_23 (by decide) rfl (T := some ()) (E := none) (v := ()) (if_neg ((sl_cond hi hL).2 hc)) (fun _ => ?_) (fun h => by cases h)
      refine g_iconst 1108 C 1 dL_law_1107 rfl (by decide) ?_
      exact sl_end K hd0 hr (by omega) (by omega)
end SLL
theorem sl_k1 : Cond.classLink RL 7 RX7 ∈ wsL_law := by decide +kernel
theorem sl_k2 : Cond.instantiable RX7 10 ∈ wsL_law := by decide +kernel
theorem sl_k3 : Cond.initialized RX7 ∈ wsL_law := by decide +kernel
theorem sl_k4 : Cond.methodLink RL 9 yX7_init ∈ wsL_law := by decide +kernel
theorem sl_k5 : Cond.instanceMethod yX7_init ∈ wsL_law := by decide +kernel
theorem sl_k6 : Cond.classLink RL 10 RX8 ∈ wsL_law := by decide +kernel
theorem sl_k7 : Cond.instantiable RX8 27 ∈ wsL_law := by decide +kernel
theorem sl_k8 : Cond.initialized RX8 ∈ wsL_law := by decide +kernel
theorem sl_k9 : Cond.methodLink RL 12 yX8_init ∈ wsL_law := by decide +kernel
theorem sl_k0 : Cond.instanceMethod yX8_init ∈ wsL_law := by decide +kernel
set_option maxHeartbeats 8000000 in
set_option maxRecDepth 100000 in
theorem sl_begin {p : Program} {l : Launch} {e : Env} {s : State} {m : MethodId} {below : List Frame} {meth : Method} {c : Code} {D : va_G} {Y : Nat → ClassId} {jK jV jT : Nat → Nat} {b L : Nat} {xs : Nat → Int32} (K : sl_Cx p s m meth c D Y jK jV jT b L xs) (hr : meth.sig.returnType = ret) : sg_G p l e room_1 (s.setDrawn s.drawn) m #[Value.ref b] below meth c D (sl_A s) 8 0 0 (lw_Z below #[Value.ref b] s) 0 [(0, .ref b)] [] [] := by
  have hd0 := Drawn.sameBut.refl s.drawn lw_cs
  have C := K.1 s.drawn hd0
  refine g_new 3 C (C1 := RX7) (T := TX7) (N := 10) (ci := 8) [.null, .null, .null, .null, .int 0, .null, .null, .null, .null, .int 0] tyX7 tyX7_ok inlX7 sl_k1 sl_k2 sl_k3 rfl (by decide +kernel) (Nat.le_of_ble_eq_true rfl) (Nat.le_of_ble_eq_true rfl) dL_law_0 rfl (fun q1 => ?_)
  refine g_dup 4 C dL_law_3 rfl rfl ?_
  refine g_XIv 7 C (ret := none) (As := []) (n0 := 0) (st := [.ref q1]) (c_X7_init l (sl_Zok jK jV jT) (sl_ZN jK jV jT) (sl_ZJ jK jV jT) (h0 := q1)) gL_law_X7_init sl_k3 sl_k4 sl_k5 rfl ⟨by decide, by decide, by decide +kernel⟩ rfl ⟨(Nat.le_of_ble_eq_true rfl), (Nat.le_of_ble_eq_true rfl)⟩ sg_cutEnd rfl (Nat.le_of_ble_eq_true rfl) ⟨(Nat.le_of_ble_eq_true rfl), (Nat.le_of_ble_eq_true rfl)⟩ dL_law_4 rfl rfl (fun u1 hu1 => ?_)
  have hu1 : u1 0 = q1 := hu1
  subst hu1
  refine g_astore_n 8 C [(1, .ref (u1 0)), (0, .ref b)] dL_law_7 rfl rfl (by decide) rfl ?_
  refine g_new 11 C (C1 := RX8) (T := TX8) (N := 27) (ci := 9) [.int 0, .int 0, .int 0, .int 0, .int 0, .int 0, .int 0, .int 0, .null, .null, .null, .null, .null, .null, .null, .int 0, .null, .null, .null, .null, .null, .int 0, .int 0, .int 0, .int 0, .int 0, .int 0] tyX8 tyX8_ok inlX8 sl_k6 sl_k7 sl_k8 rfl (by decide +kernel) (Nat.le_of_ble_eq_true rfl) (Nat.le_of_ble_eq_true rfl) dL_law_8 rfl (fun q2 => ?_)
  refine g_dup 12 C dL_law_11 rfl rfl ?_
  refine g_XIv 15 C (ret := none) (As := []) (n0 := 0) (st := [.ref q2]) (c_X8_init l (sl_Zok jK jV jT) (h0 := q2)) gL_law_X8_init sl_k8 sl_k9 sl_k0 rfl ⟨by decide, by decide, by decide +kernel⟩ rfl ⟨(Nat.le_of_ble_eq_true rfl), (Nat.le_of_ble_eq_true rfl)⟩ sg_cutEnd rfl (Nat.le_of_ble_eq_true rfl) ⟨(Nat.le_of_ble_eq_true rfl), (Nat.le_of_ble_eq_true rfl)⟩ dL_law_12 rfl rfl (fun u2 hu2 => ?_)
  have hu2 : u2 0 = q2 := hu2
  subst hu2
  refine g_astore_n 16 C [(2, .ref (u2 0)), (1, .ref (u1 0)), (0, .ref b)] dL_law_15 rfl rfl (by decide) rfl ?_
  refine g_iconst 17 C 0 dL_law_16 rfl (by decide) ?_
  refine g_istore_n 18 C [(3, .int 0), (2, .ref (u2 0)), (1, .ref (u1 0)), (0, .ref b)] dL_law_17 rfl rfl (by decide) rfl ?_
  refine g_lv (lv2 := [(0, .ref b), (1, .ref (u1 0)), (2, .ref (u2 0)), (3, .int (nI 0))]) [3, 2, 1, 0] rfl ?_
  refine g_perm (w2 := sl_w Y u1 iX7 u2 iX8) ?_ ?_
  · exact List.perm_append_comm.trans (List.Perm.of_eq rfl)
  refine g_widen (200 + 60 * 0) (2300 + 10801 * 0) (Nat.le_of_ble_eq_true rfl) (Nat.le_of_ble_eq_true rfl) ?_
  exact sl_loop K hr (L + 1) 0 0 s.drawn u1 u2 iX7 iX8 hd0 rfl (Nat.zero_le _) (by omega) gj_start
/-- YOUR PART: from the entry, for every script of at most 2048 ints, the law comes to its end with true ('hflags': the launch's flags, for a law that throws: no stack traces) -/
theorem whole_start {p : Program} {e : Env} {s : State} {m : MethodId} {below : List Frame} {meth : Method} {c : Code} (l : Launch) (hflags : l.flags = flags0) {b L : Nat} {xs : Nat → Int32} (hL : L ≤ 2048) (C0 : lw_At p s m meth c b L xs) : W p l e room_1 s m #[Value.ref b] below meth c s.heap [] 0 0 (lw_Z below #[Value.ref b] s) (entryFrame m ([Value.ref b] : List Value).toArray 8) := by
  obtain ⟨hx, hb, hr, hml, hown, hts0, hX, hbl, hlocks, hgv⟩ := id C0
  obtain ⟨D, Y, jK, jV, jT, hK, hZ⟩ := sl_entry hts0 hgv
  have K : sl_Cx p s m meth c D Y jK jV jT b L xs := ⟨fun d _ => ⟨hx, hb, hml, hown, dr_words (wl_hts hts0) d, hK, fun q h => h, sl_Zok jK jV jT, (sl_Zok jK jV jT).1 _ s (s.setDrawn d) s.heap (State.WarmedH.refl s) hZ, hlocks⟩, hX, hbl, hL⟩
  refine W.base ?_
  have hl := lv_entry ([.ref b]) (n := 8) (Nat.le_of_ble_eq_true rfl)
  rw [lg_entry_eq]
  exact sl_begin K hr s.heap [] _ (fun k q h => by simp at h) ⟨fun i j p q h => by simp at h, fun k q h => by simp at h⟩ va_S.rf hl
