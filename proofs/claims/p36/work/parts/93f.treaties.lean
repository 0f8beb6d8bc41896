/-! THE LAW: treaties -/
theorem ksL_treaties_m1 : Cond.methodLink RL 101 Lib.Math.min.name ∈ wsL_treaties := by decide +kernel
theorem ksL_treaties_m2 : Cond.static Lib.Math.min.name ∈ wsL_treaties := by decide +kernel
theorem ksL_treaties_m3 : Cond.initialized "java/lang/Math" ∈ wsL_treaties := by decide +kernel
theorem ksL_treaties_m4 : Cond.code Lib.Math.min.name Lib.Math.min.code 2 (some .int) ∈ wsL_treaties := by decide +kernel
theorem ksL_treaties_c99 : Cond.classLink RL 99 "[[I" ∈ wsL_treaties := by decide +kernel
theorem ksL_treaties_ai : Cond.arrayClass .int ∈ wsL_treaties := by decide +kernel
def mt_R (Y : Nat → ClassId) (r : Nat → Nat) (M : Nat → Nat → Nat) (i : Nat) : Nat × va_E := (r i, .inl (Y 0, 5, .inl (fun j => nb (M i j))))
def mt_W (Y : Nat → ClassId) (q : Nat) (r : Nat → Nat) (M : Nat → Nat → Nat) : va_W := [(q, .inl (Y 3, 5, .inr (.inr (.inr (.inr (fun i => if i < 5 then some (r i) else none)))))), mt_R Y r M 0, mt_R Y r M 1, mt_R Y r M 2, mt_R Y r M 3, mt_R Y r M 4]
def mt_s (M : Nat → Nat → Nat) (t u x : Nat) : Nat → Nat → Nat := fun i j => if i = t ∧ j = u then x else M i j
theorem mt_at {Y : Nat → ClassId} {a q : Nat} {v : Int32} {r : Nat → Nat} {M : Nat → Nat → Nat} {t : Nat} (ht : t < 5) : (bx_W a v ++ mt_W Y q r M)[2 + t]? = some (mt_R Y r M t) := by
  rcases (by omega : t = 0 ∨ t = 1 ∨ t = 2 ∨ t = 3 ∨ t = 4) with rfl | rfl | rfl | rfl | rfl <;> rfl
theorem mt_Rs {Y : Nat → ClassId} {r : Nat → Nat} {M : Nat → Nat → Nat} {t u x i : Nat} (h : i ≠ t) : mt_R Y r (mt_s M t u x) i = mt_R Y r M i := by
  unfold mt_R mt_s
  congr
  funext j
  rw [if_neg (fun c => h c.1)]
theorem mt_Rt {Y : Nat → ClassId} {r : Nat → Nat} {M : Nat → Nat → Nat} {t u x : Nat} : mt_R Y r (mt_s M t u x) t = (r t, .inl (Y 0, 5, .inl (upd (fun j => nb (M t j)) u (nb x)))) := by
  unfold mt_R mt_s
  congr
  funext j
  rw [k_upd]
  by_cases e : j = u
  · rw [if_pos ⟨rfl, e⟩, if_pos e]
  · rw [if_neg (fun c => e c.2), if_neg e]
theorem mt_set {Y : Nat → ClassId} {a q : Nat} {v : Int32} {r : Nat → Nat} {M : Nat → Nat → Nat} {t u x : Nat} (ht : t < 5) : (bx_W a v ++ mt_W Y q r M).set (2 + t) (r t, .inl (Y 0, 5, .inl (upd (fun j => nb (M t j)) u (nb x)))) = bx_W a v ++ mt_W Y q r (mt_s M t u x) := by
  rw [← mt_Rt]
  unfold mt_W
  rcases (by omega : t = 0 ∨ t = 1 ∨ t = 2 ∨ t = 3 ∨ t = 4) with rfl | rfl | rfl | rfl | rfl
  · rw [mt_Rs (i := 1) (by decide), mt_Rs (i := 2) (by decide), mt_Rs (i := 3) (by decide), mt_Rs (i := 4) (by decide)]
    rfl
  · rw [mt_Rs (i := 0) (by decide), mt_Rs (i := 2) (by decide), mt_Rs (i := 3) (by decide), mt_Rs (i := 4) (by decide)]
    rfl
  · rw [mt_Rs (i := 0) (by decide), mt_Rs (i := 1) (by decide), mt_Rs (i := 3) (by decide), mt_Rs (i := 4) (by decide)]
    rfl
  · rw [mt_Rs (i := 0) (by decide), mt_Rs (i := 1) (by decide), mt_Rs (i := 2) (by decide), mt_Rs (i := 4) (by decide)]
    rfl
  · rw [mt_Rs (i := 0) (by decide), mt_Rs (i := 1) (by decide), mt_Rs (i := 2) (by decide), mt_Rs (i := 3) (by decide)]
    rfl
/-- the treaties that are counted -/
def mt_I (a : Nat → Nat → Bool) (t : Nat) : Nat → Nat
  | 0 => 0
  | u + 1 => mt_I a t u + (if u < t then (a t u).toNat else 0)
def mt_O (a : Nat → Nat → Bool) : Nat → Nat
  | 0 => 0
  | t + 1 => mt_O a t + mt_I a t 5
theorem mt_O5 (a : Nat → Nat → Bool) : mt_O a 5 = (a 1 0).toNat + (a 2 0).toNat + (a 2 1).toNat + (a 3 0).toNat + (a 3 1).toNat + (a 3 2).toNat + (a 4 0).toNat + (a 4 1).toNat + (a 4 2).toNat + (a 4 3).toNat := by
  have i0 : mt_I a 0 5 = 0 := rfl
  have i1 : mt_I a 1 5 = 0 + (a 1 0).toNat := rfl
  have i2 : mt_I a 2 5 = 0 + (a 2 0).toNat + (a 2 1).toNat := rfl
  have i3 : mt_I a 3 5 = 0 + (a 3 0).toNat + (a 3 1).toNat + (a 3 2).toNat := rfl
  have i4 : mt_I a 4 5 = 0 + (a 4 0).toNat + (a 4 1).toNat + (a 4 2).toNat + (a 4 3).toNat := rfl
  show 0 + mt_I a 0 5 + mt_I a 1 5 + mt_I a 2 5 + mt_I a 3 5 + mt_I a 4 5 = _
  omega
theorem mt_IB (a : Nat → Nat → Bool) (t : Nat) : ∀ u, mt_I a t u ≤ u := by
  intro u
  induction u with
  | zero => exact Nat.le_refl 0
  | succ u ih =>
    show mt_I a t u + (if u < t then (a t u).toNat else 0) ≤ u + 1
    have : (a t u).toNat ≤ 1 := by cases a t u <;> decide
    split <;> omega
theorem mt_OB (a : Nat → Nat → Bool) : ∀ t, mt_O a t ≤ 5 * t := by
  intro t
  induction t with
  | zero => exact Nat.le_refl 0
  | succ t ih =>
    show mt_O a t + mt_I a t 5 ≤ _
    have := mt_IB a t 5
    omega
/-- who is next, and who is reached -/
def mt_n (a : Nat → Nat → Bool) (t : Nat) : Nat → Nat
  | 0 => 0
  | u + 1 => mt_n a t u + (if gf_far a t u = 1 then 1 else 0)
def mt_r (a : Nat → Nat → Bool) (t : Nat) : Nat → Nat
  | 0 => 0
  | u + 1 => mt_r a t u + (if 0 < gf_far a t u then 1 else 0)
theorem mt_nB (a : Nat → Nat → Bool) (t : Nat) : ∀ u, mt_n a t u ≤ u ∧ mt_r a t u ≤ u := by
  intro u
  induction u with
  | zero => exact ⟨Nat.le_refl 0, Nat.le_refl 0⟩
  | succ u ih =>
    constructor
    · show mt_n a t u + (if gf_far a t u = 1 then 1 else 0) ≤ u + 1
      split <;> omega
    · show mt_r a t u + (if 0 < gf_far a t u then 1 else 0) ≤ u + 1
      split <;> omega
theorem mt_f1 {a : Nat → Nat → Bool} {t u : Nat} (ht : t < 5) (hu : u < 5) (hi : a t t = false) : gf_far a t u = 1 ↔ a t u = true := by
  rw [← fd_1 ht hu hi]
  unfold gf_far
  rcases gf_d49 a t u with h | h
  · rw [if_pos h]
    exact nb_eq (b := 1) (by omega) (by decide)
  · rw [if_neg (by omega), h]
    decide
theorem mt_f0 (a : Nat → Nat → Bool) (t u : Nat) : (if 0 < gf_far a t u then 1 else 0) = gz_g a t u := by
  unfold gf_far gz_g
  rcases gf_d49 a t u with h | h
  · rw [if_pos h]
    by_cases c : 0 < gf_d a t u
    · rw [if_pos (nb_pos c (by omega)), if_pos ⟨c, h⟩]
    · rw [if_neg (fun q => c (by have := (nb_lt (a := 0) (by decide) (by omega)).mp q; omega)), if_neg (fun q => c q.1)]
  · rw [if_neg (show ¬ gf_d a t u ≤ 4 by omega), if_neg (show ¬ ((0 : Int32) < -6) by decide), if_neg (show ¬ (0 < gf_d a t u ∧ gf_d a t u ≤ 4) by omega)]
theorem mt_n5 {a : Nat → Nat → Bool} {t : Nat} (ht : t < 5) (hi : a t t = false) : mt_n a t 5 = gf_c (a t) := by
  have e : ∀ u, u < 5 → (if gf_far a t u = 1 then 1 else 0) = (a t u).toNat := fun u hu => by
    cases h : a t u with
    | true => rw [if_pos ((mt_f1 ht hu hi).mpr h)]; rfl
    | false => rw [if_neg (fun q => by rw [(mt_f1 ht hu hi).mp q] at h; cases h)]; rfl
  show 0 + (if gf_far a t 0 = 1 then 1 else 0) + (if gf_far a t 1 = 1 then 1 else 0) + (if gf_far a t 2 = 1 then 1 else 0) + (if gf_far a t 3 = 1 then 1 else 0) + (if gf_far a t 4 = 1 then 1 else 0) = _
  rw [e 0 (by decide), e 1 (by decide), e 2 (by decide), e 3 (by decide), e 4 (by decide)]
  unfold gf_c
  omega
theorem mt_r5 (a : Nat → Nat → Bool) (t : Nat) : mt_r a t 5 = gz_g a t 0 + gz_g a t 1 + gz_g a t 2 + gz_g a t 3 + gz_g a t 4 := by
  show 0 + (if 0 < gf_far a t 0 then 1 else 0) + (if 0 < gf_far a t 1 then 1 else 0) + (if 0 < gf_far a t 2 then 1 else 0) + (if 0 < gf_far a t 3 then 1 else 0) + (if 0 < gf_far a t 4 then 1 else 0) = _
  rw [mt_f0, mt_f0, mt_f0, mt_f0, mt_f0, Nat.zero_add]
theorem mt_sh {d H : Nat} (hd : d ≤ 4) (hH : H ≤ 20) : nb H / (nb 1 <<< (nb d &&& 31)) = nb (H / 2 ^ d) ∧ ¬ (nb 1 <<< (nb d &&& 31) = 0) := by
  have e : nb 1 <<< (nb d &&& 31) = nb (2 ^ d) ∧ 2 ^ d ≤ 16 ∧ 0 < 2 ^ d := by
    rcases (by omega : d = 0 ∨ d = 1 ∨ d = 2 ∨ d = 3 ∨ d = 4) with rfl | rfl | rfl | rfl | rfl <;> decide
  rw [e.1]
  exact ⟨nb_div (by omega) (by omega), nb_ne (b := 0) (by omega) (by omega) (by decide)⟩
/-- the table, as it fills; and the shortest ways, one town after the other -/
def mt_PA (a : Nat → Nat → Bool) (t u : Nat) (M : Nat → Nat → Nat) : Prop := ∀ i j, i < 5 → j < 5 → (i < t ∨ (i = t ∧ j < u)) → M i j = fw_0 a i j
def mt_PB (a : Nat → Nat → Bool) (k t u : Nat) (M : Nat → Nat → Nat) : Prop := ∀ i j, i < 5 → j < 5 → M i j = if i < t ∨ (i = t ∧ j < u) then fw_P a (k + 1) i j else fw_P a k i j
theorem mt_PAs {a : Nat → Nat → Bool} {t u : Nat} {M : Nat → Nat → Nat} (h : mt_PA a t u M) : mt_PA a t (u + 1) (mt_s M t u (fw_0 a t u)) := by
  intro i j hi hj hc
  unfold mt_s
  by_cases e : i = t ∧ j = u
  · rw [if_pos e, e.1, e.2]
  · rw [if_neg e]
    exact h i j hi hj (by omega)
theorem mt_PAn {a : Nat → Nat → Bool} {t : Nat} {M : Nat → Nat → Nat} (h : mt_PA a t 5 M) : mt_PA a (t + 1) 0 M := fun i j hi hj hc => h i j hi hj (by omega)
theorem mt_PAB {a : Nat → Nat → Bool} {M : Nat → Nat → Nat} (h : mt_PA a 5 0 M) : mt_PB a 0 0 0 M := by
  intro i j hi hj
  rw [if_neg (by omega)]
  exact h i j hi hj (by omega)
theorem mt_PBn {a : Nat → Nat → Bool} {k t : Nat} {M : Nat → Nat → Nat} (h : mt_PB a k t 5 M) : mt_PB a k (t + 1) 0 M := by
  intro i j hi hj
  rw [h i j hi hj]
  by_cases e : i < t ∨ (i = t ∧ j < 5)
  · rw [if_pos e, if_pos (by omega)]
  · rw [if_neg e, if_neg (by omega)]
theorem mt_PBk {a : Nat → Nat → Bool} {k : Nat} {M : Nat → Nat → Nat} (h : mt_PB a k 5 0 M) : mt_PB a (k + 1) 0 0 M := by
  intro i j hi hj
  rw [h i j hi hj, if_pos (by omega), if_neg (by omega)]
theorem mt_PB9 {a : Nat → Nat → Bool} {k t u : Nat} {M : Nat → Nat → Nat} (h : mt_PB a k t u M) {i j : Nat} (hi : i < 5) (hj : j < 5) : M i j ≤ 9 := by
  rw [h i j hi hj]
  split
  · exact fw_9 a _ i j
  · exact fw_9 a _ i j
theorem mt_PBs {a : Nat → Nat → Bool} {k t u : Nat} {M : Nat → Nat → Nat} (h : mt_PB a k t u M) (hk : k < 5) (ht : t < 5) (hu : u < 5) : mt_PB a k t (u + 1) (mt_s M t u (min (M t u) (M t k + M k u))) := by
  have e1 : M t u = fw_P a k t u := by rw [h t u ht hu, if_neg (by omega)]
  have e2 : M t k = fw_P a k t k := by
    rw [h t k ht hk]
    split
    · exact fw_row (fw_P a k) k t
    · rfl
  have e3 : M k u = fw_P a k k u := by
    rw [h k u hk hu]
    split
    · exact fw_col (fw_P a k) k u
    · rfl
  intro i j hi hj
  unfold mt_s
  by_cases e : i = t ∧ j = u
  · rw [if_pos e, if_pos (by omega), e.1, e.2, e1, e2, e3]
    rfl
  · rw [if_neg e, h i j hi hj]
    by_cases c : i < t ∨ (i = t ∧ j < u)
    · rw [if_pos c, if_pos (by omega)]
    · rw [if_neg c, if_neg (by omega)]
theorem mt_PC {a : Nat → Nat → Bool} {M : Nat → Nat → Nat} (h : mt_PB a 5 0 0 M) {i j : Nat} (hi : i < 5) (hj : j < 5) : M i j = gf_d a i j := by
  rw [h i j hi hj, if_neg (by omega)]
  exact fw_D hi hj
section SLT
variable {p : Program} {l : Launch} {e : Env} {R : Room} {s : State} {m : MethodId} {args : Array Value} {below : List Frame} {meth : Method} {c : Code} {D : va_G} {Y : Nat → ClassId} {Z : (Nat → Prop) → State → Heap → Prop} {A : Nat → Prop} {nL : Nat} {cells slots : Nat} {Q : State → Prop} {cc : ByteArray} {own : String} {Ts : List Cond} {pc : Nat} {lv : List (Nat × Value)} {st : List Value} {X : va_W} {ad b : Nat → Nat} {σ κ : sg_S} {index : Nat} {jK jV jT : Nat → Nat} {f : Nat → Nat} {n0 : Nat} {a q : Nat} {v : Int32} {r : Nat → Nat} {M : Nat → Nat → Nat} {t u x : Nat}
theorem mt_row (n : Nat) (C : sg_C p R s m args meth c cc nL own Ts D Y Z A) (ht : t < 5) (hdg : decode cc pc = .ok (.aaload, 1)) (hn : pc + 1 = n) (kk : sg_G p l e R s m args below meth c D A nL cells slots Q n lv (.ref (r t) :: st) (sl_w Y ad σ (bx_W a v ++ mt_W Y q r M))) : sg_G p l e R s m args below meth c D A nL cells slots Q pc lv (.int (nb t) :: .ref q :: st) (sl_w Y ad σ (bx_W a v ++ mt_W Y q r M)) :=
  g_aaldI n C (k := t) (f := fun i => if i < 5 then some (r i) else none) 1 (.ref (r t)) (nb_in ht (by decide)) (nb_tn (by omega)).symm (by rw [if_pos ht]; rfl) hdg hn (sl_atX rfl) kk
theorem mt_get (n : Nat) (C : sg_C p R s m args meth c cc nL own Ts D Y Z A) (ht : t < 5) (hu : u < 5) (hdg : decode cc pc = .ok (.iaload, 1)) (hn : pc + 1 = n) (kk : sg_G p l e R s m args below meth c D A nL cells slots Q n lv (.int (nb (M t u)) :: st) (sl_w Y ad σ (bx_W a v ++ mt_W Y q r M))) : sg_G p l e R s m args below meth c D A nL cells slots Q pc lv (.int (nb u) :: .ref (r t) :: st) (sl_w Y ad σ (bx_W a v ++ mt_W Y q r M)) :=
  g_ialdc n C (2 + t) u (nb (M t u)) hdg hn (sl_atX (mt_at ht)) (nb_tn (by omega)) (nb_in hu (by decide)) rfl kk
theorem mt_put (n : Nat) (C : sg_C p R s m args meth c cc nL own Ts D Y Z A) (ht : t < 5) (hu : u < 5) (hdg : decode cc pc = .ok (.iastore, 1)) (hn : pc + 1 = n) (kk : sg_G p l e R s m args below meth c D A nL cells slots Q n lv st (sl_w Y ad σ (bx_W a v ++ mt_W Y q r (mt_s M t u x)))) : sg_G p l e R s m args below meth c D A nL cells slots Q pc lv (.int (nb x) :: .int (nb u) :: .ref (r t) :: st) (sl_w Y ad σ (bx_W a v ++ mt_W Y q r M)) :=
  g_iast n C (w2 := sl_w Y ad σ (bx_W a v ++ mt_W Y q r (mt_s M t u x))) (2 + t) hdg hn (sl_atX (mt_at ht)) (nb_in hu (by decide)) (by rw [nb_tn (by omega), sl_setX (show 2 + t < 7 by omega), mt_set ht]) kk
end SLT
theorem mt_pm (Y : Nat → ClassId) (ad : Nat → Nat) (σ : sg_S) (a : Nat) (v : Int32) (q : Nat) (r : Nat → Nat) : (sl_w Y ad σ (bx_W a v ++ []) ++ ([(q, .inl (Y 3, 5, .inr (.inr (.inr (.inr (fun i => if i < 5 then some (r i) else none))))))] : va_W) ++ (List.range 5).map (fun i => ((r i, .inl (Y 0, 5, .inl (fun _ => 0))) : Nat × va_E))).Perm (sl_w Y ad σ (bx_W a v ++ mt_W Y q r (fun _ _ => 0))) := by
  show ((bx_W a v ++ [] ++ sl_M Y ad σ) ++ ([(q, .inl (Y 3, 5, .inr (.inr (.inr (.inr (fun i => if i < 5 then some (r i) else none))))))] : va_W) ++ (List.range 5).map (fun i => ((r i, .inl (Y 0, 5, .inl (fun _ => 0))) : Nat × va_E))).Perm ((bx_W a v ++ mt_W Y q r (fun _ _ => 0)) ++ sl_M Y ad σ)
  rw [List.append_nil, List.append_assoc, List.append_assoc, List.append_assoc]
  exact List.Perm.append_left _ List.perm_append_comm
set_option maxHeartbeats 4000000 in
set_option maxRecDepth 100000 in
theorem k_treaties (l : Launch) {D : va_G} {Y : Nat → ClassId} {Z : (Nat → Prop) → State → Heap → Prop} (hZ : sg_Zok Z) (hZN : sg_ZN Z) {ad : Nat → Nat} {σ : sg_S} {m0 c0 : Nat} {w : Nat → Nat} (hA : cl_A m0 w c0 σ) {a : Nat} {v : Int32} : sg_XI l yL_treaties wsL_treaties 5 130 6 30 D Y Z [.ref (ad 0), .ref a] (sl_w Y ad σ (bx_W a v ++ [])) (fun (r : Int32) (u : sg_S × Int32) => r = 1 ∧ cl_A m0 w c0 u.1 ∧ cl_Q σ u.1) (fun u => sl_w Y ad u.1 (bx_W a u.2 ++ [])) := by
  intro sz
  refine sg_enterX (own := RL) (maxL := 11) (ret := (some .boolean)) (cc := cL_treaties) (by decide +kernel) rfl rfl (Nat.le_of_ble_eq_true rfl) hZ ?_
  intro p e s m args below meth c C hr hin Q hQ hsz
  have hs : gw_S w := hA.2.1.2.2.2.2.1
  have hdg0 : ∀ t, t < 5 → w (30 + 6 * t) = 0 := hA.2.1.2.2.2.2.2.1
  have hirr : ∀ t, t < 5 → gw_a w t t = false := fun t ht => fd_irr hdg0 ht
  refine g_lv (lv2 := [(0, .ref (ad 0)), (1, .ref a)]) [0, 1] rfl ?_
  refine g_iconst 1 C (nb 5) dL_treaties_0 rfl (by decide) ?_
  refine g_iconst 2 C (nb 5) dL_treaties_1 rfl (by decide) ?_
  refine g_mna 6 C hZN 5 5 ksL_treaties_c99 ksL_treaties_ai (by decide) (by decide) rfl rfl (by decide) (by decide) (by decide) (Nat.le_of_ble_eq_true rfl) (Nat.le_of_ble_eq_true rfl) dL_treaties_2 rfl (fun q r => ?_)
  refine g_perm (w2 := sl_w Y ad σ (bx_W a v ++ mt_W Y q r (fun _ _ => 0))) (mt_pm Y ad σ a v q r) ?_
  refine g_astore_n 7 C [(2, .ref q), (0, .ref (ad 0)), (1, .ref a)] dL_treaties_6 rfl rfl (by decide) rfl ?_
  refine g_iconst 8 C (nb 0) dL_treaties_7 rfl (by decide) ?_
  refine g_istore_n 9 C [(3, .int (nb 0)), (2, .ref q), (0, .ref (ad 0)), (1, .ref a)] dL_treaties_8 rfl rfl (by decide) rfl ?_
  refine g_iconst 10 C (nb 0) dL_treaties_9 rfl (by decide) ?_
  refine g_istore 12 C [(4, .int (nb 0)), (3, .int (nb 0)), (2, .ref q), (0, .ref (ad 0)), (1, .ref a)] dL_treaties_10 rfl (by decide) rfl ?_
  refine g_lv (lv2 := [(4, .int (nb 0)), (3, .int (nb 0)), (2, .ref q), (0, .ref (ad 0)), (1, .ref a)]) [0, 1, 2, 3, 4] rfl ?_
  have hA0 := hA
  have A1 : (∀ M, mt_PA (gw_a w) 5 0 M → sg_G p l e { frames := 5, cells := 6, slots := 30, locals := 130 } s m args below meth c D (va_A (sl_w Y ad σ (bx_W a v ++ [])) s.heap.size) 11 6 30 Q 101 [(4, .int (nb 5)), (3, .int (nb (mt_O (gw_a w) 5))), (2, .ref q), (0, .ref (ad 0)), (1, .ref a)] [] (sl_w Y ad σ (bx_W a v ++ mt_W Y q r M))) → ∀ (d t : Nat) (M : Nat → Nat → Nat), t + d = 5 → mt_PA (gw_a w) t 0 M → sg_G p l e { frames := 5, cells := 6, slots := 30, locals := 130 } s m args below meth c D (va_A (sl_w Y ad σ (bx_W a v ++ [])) s.heap.size) 11 6 30 Q 12 [(4, .int (nb t)), (3, .int (nb (mt_O (gw_a w) t))), (2, .ref q), (0, .ref (ad 0)), (1, .ref a)] [] (sl_w Y ad σ (bx_W a v ++ mt_W Y q r M)) := by
    intro hendA d
    have A2 : ∀ t, t < 5 → (∀ M, mt_PA (gw_a w) t 5 M → sg_G p l e { frames := 5, cells := 6, slots := 30, locals := 130 } s m args below meth c D (va_A (sl_w Y ad σ (bx_W a v ++ [])) s.heap.size) 11 6 30 Q 95 [(5, .int (nb 5)), (4, .int (nb t)), (3, .int (nb (mt_O (gw_a w) t + mt_I (gw_a w) t 5))), (2, .ref q), (0, .ref (ad 0)), (1, .ref a)] [] (sl_w Y ad σ (bx_W a v ++ mt_W Y q r M))) → ∀ (d u : Nat) (M : Nat → Nat → Nat), u + d = 5 → mt_PA (gw_a w) t u M → sg_G p l e { frames := 5, cells := 6, slots := 30, locals := 130 } s m args below meth c D (va_A (sl_w Y ad σ (bx_W a v ++ [])) s.heap.size) 11 6 30 Q 21 [(5, .int (nb u)), (4, .int (nb t)), (3, .int (nb (mt_O (gw_a w) t + mt_I (gw_a w) t u))), (2, .ref q), (0, .ref (ad 0)), (1, .ref a)] [] (sl_w Y ad σ (bx_W a v ++ mt_W Y q r M)) := by
      intro t ht hend d
      induction d with
      | zero =>
        intro u M h1 hM
        refine g_iload 23 C dL_treaties_21 rfl rfl ?_
        refine g_iconst 24 C (nb 5) dL_treaties_23 rfl (by decide) ?_
        refine g_icmp_ge 27 95 C dL_treaties_24 (by decide) rfl (T := some ()) (E := none) (v := ()) (if_neg (nb_lt_f (by omega) (by omega))) (fun _ => ?_) (fun h => by cases h)
        have hu : u = 5 := by omega
        subst hu
        exact hend M hM
      | succ d ih =>
        intro u M h1 hM
        refine g_iload 23 C dL_treaties_21 rfl rfl ?_
        refine g_iconst 24 C (nb 5) dL_treaties_23 rfl (by decide) ?_
        refine g_icmp_ge 27 95 C dL_treaties_24 (by decide) rfl (T := none) (E := some ()) (v := ()) (if_pos (nb_lt_t (by omega) (by omega))) (fun h => by cases h) (fun _ => ?_)
        refine g_aload_n 28 C dL_treaties_27 rfl rfl rfl ?_
        refine g_iload 30 C dL_treaties_28 rfl rfl ?_
        refine mt_row 31 C (by omega) dL_treaties_30 rfl ?_
        refine g_iload 33 C dL_treaties_31 rfl rfl ?_
        have K62 : sg_G p l e { frames := 5, cells := 6, slots := 30, locals := 130 } s m args below meth c D (va_A (sl_w Y ad σ (bx_W a v ++ [])) s.heap.size) 11 6 30 Q 62 [(5, .int (nb u)), (4, .int (nb t)), (3, .int (nb (mt_O (gw_a w) t + mt_I (gw_a w) t u))), (2, .ref q), (0, .ref (ad 0)), (1, .ref a)] [.int (nb (fw_0 (gw_a w) t u)), .int (nb u), .ref (r t)] (sl_w Y ad σ (bx_W a v ++ mt_W Y q r M)) := by
          refine mt_put 63 C (by omega) (by omega) dL_treaties_62 rfl ?_
          have hM2 := mt_PAs hM
          refine g_iload_n 64 C dL_treaties_63 rfl rfl rfl ?_
          have K87 : sg_G p l e { frames := 5, cells := 6, slots := 30, locals := 130 } s m args below meth c D (va_A (sl_w Y ad σ (bx_W a v ++ [])) s.heap.size) 11 6 30 Q 87 [(5, .int (nb u)), (4, .int (nb t)), (3, .int (nb (mt_O (gw_a w) t + mt_I (gw_a w) t u))), (2, .ref q), (0, .ref (ad 0)), (1, .ref a)] [.int (nb (if u < t then (gw_a w t u).toNat else 0)), .int (nb (mt_O (gw_a w) t + mt_I (gw_a w) t u))] (sl_w Y ad σ (bx_W a v ++ mt_W Y q r (mt_s M t u (fw_0 (gw_a w) t u)))) := by
            refine g_iadd 88 C dL_treaties_87 rfl ?_
            refine g_top (v := (nb (mt_O (gw_a w) t + mt_I (gw_a w) t (u + 1)))) (by rw [nb_add, Nat.add_assoc]; rfl) ?_
            refine g_istore_n 89 C [(3, .int (nb (mt_O (gw_a w) t + mt_I (gw_a w) t (u + 1)))), (5, .int (nb u)), (4, .int (nb t)), (2, .ref q), (0, .ref (ad 0)), (1, .ref a)] dL_treaties_88 rfl rfl (by decide) rfl ?_
            refine g_iinc 92 C 1 (nb (u + 1)) [(5, .int (nb (u + 1))), (3, .int (nb (mt_O (gw_a w) t + mt_I (gw_a w) t (u + 1)))), (4, .int (nb t)), (2, .ref q), (0, .ref (ad 0)), (1, .ref a)] dL_treaties_89 rfl rfl (nb_succ u) (by decide) rfl ?_
            refine g_goto 21 C dL_treaties_92 (by decide) ?_
            refine g_lv (lv2 := [(5, .int (nb (u + 1))), (4, .int (nb t)), (3, .int (nb (mt_O (gw_a w) t + mt_I (gw_a w) t (u + 1)))), (2, .ref q), (0, .ref (ad 0)), (1, .ref a)]) [0, 2, 1, 3, 4, 5] rfl ?_
            exact ih (u + 1) (mt_s M t u (fw_0 (gw_a w) t u)) (by omega) hM2
          refine g_iload 66 C dL_treaties_64 rfl rfl ?_
          refine g_iload 68 C dL_treaties_66 rfl rfl ?_
          by_cases c : u < t
          · skip
            refine g_icmp_ge 71 86 C dL_treaties_68 (by decide) rfl (T := none) (E := some ()) (v := ()) (if_pos (nb_lt_t c (by omega))) (fun h => by cases h) (fun _ => ?_)
            refine g_aload_n 72 C dL_treaties_71 rfl rfl rfl ?_
            refine g_iload 74 C dL_treaties_72 rfl rfl ?_
            refine mt_row 75 C (by omega) dL_treaties_74 rfl ?_
            refine g_iload 77 C dL_treaties_75 rfl rfl ?_
            refine mt_get 78 C (by omega) (by omega) dL_treaties_77 rfl ?_
            have e : (mt_s M t u (fw_0 (gw_a w) t u)) t u = fw_0 (gw_a w) t u := by unfold mt_s; rw [if_pos ⟨rfl, rfl⟩]
            rw [e]
            refine g_iconst 79 C (nb 1) dL_treaties_78 rfl (by decide) ?_
            have e0 : fw_0 (gw_a w) t u = if gw_a w t u = true then 1 else 9 := by unfold fw_0; rw [if_neg (by omega)]
            cases h : gw_a w t u with
            | true =>
              refine g_icmp_ne 82 86 C dL_treaties_79 (by decide) rfl (T := none) (E := some ()) (v := ()) (if_pos (by rw [e0, h]; rfl)) (fun h => by cases h) (fun _ => ?_)
              refine g_iconst 83 C (nb 1) dL_treaties_82 rfl (by decide) ?_
              refine g_goto 87 C dL_treaties_83 (by decide) ?_
              refine g_top (v := (nb (if u < t then (gw_a w t u).toNat else 0))) (by rw [if_pos c, h]; rfl) ?_
              exact K87
            | false =>
              refine g_icmp_ne 82 86 C dL_treaties_79 (by decide) rfl (T := some ()) (E := none) (v := ()) (if_neg (by rw [e0, h]; decide)) (fun _ => ?_) (fun h => by cases h)
              refine g_iconst 87 C (nb 0) dL_treaties_86 rfl (by decide) ?_
              refine g_top (v := (nb (if u < t then (gw_a w t u).toNat else 0))) (by rw [if_pos c, h]; rfl) ?_
              exact K87
          · skip
            refine g_icmp_ge 71 86 C dL_treaties_68 (by decide) rfl (T := some ()) (E := none) (v := ()) (if_neg (nb_lt_f (by omega) (by omega))) (fun _ => ?_) (fun h => by cases h)
            refine g_iconst 87 C (nb 0) dL_treaties_86 rfl (by decide) ?_
            refine g_top (v := (nb (if u < t then (gw_a w t u).toNat else 0))) (by rw [if_neg c]) ?_
            exact K87
        refine g_iload 35 C dL_treaties_33 rfl rfl ?_
        refine g_iload 37 C dL_treaties_35 rfl rfl ?_
        by_cases c : t = u
        · skip
          refine g_icmp_ne 40 44 C dL_treaties_37 (by decide) rfl (T := none) (E := some ()) (v := ()) (if_pos (by rw [c])) (fun h => by cases h) (fun _ => ?_)
          refine g_iconst 41 C (nb 0) dL_treaties_40 rfl (by decide) ?_
          refine g_goto 62 C dL_treaties_41 (by decide) ?_
          refine g_top (v := (nb (fw_0 (gw_a w) t u))) (by unfold fw_0; rw [if_pos c]) ?_
          exact K62
        · skip
          refine g_icmp_ne 40 44 C dL_treaties_37 (by decide) rfl (T := some ()) (E := none) (v := ()) (if_neg (nb_ne c (by omega) (by omega))) (fun _ => ?_) (fun h => by cases h)
          refine g_aload_n 45 C dL_treaties_44 rfl rfl rfl ?_
          refine g_iload 47 C dL_treaties_45 rfl rfl ?_
          refine g_iload 49 C dL_treaties_47 rfl rfl ?_
          refine lc_far 52 C gL_treaties_X7_far ⟨(Nat.le_of_ble_eq_true rfl), (Nat.le_of_ble_eq_true rfl)⟩ (Nat.le_of_ble_eq_true rfl) (ce_far hA (by omega : t < 5) (by omega : u < 5)) ⟨(Nat.le_of_ble_eq_true rfl), (Nat.le_of_ble_eq_true rfl)⟩ dL_treaties_49 rfl ?_
          refine g_iconst 53 C (nb 1) dL_treaties_52 rfl (by decide) ?_
          cases h : gw_a w t u with
          | true =>
            refine g_icmp_ne 56 60 C dL_treaties_53 (by decide) rfl (T := none) (E := some ()) (v := ()) (if_pos ((mt_f1 (by omega) (by omega) (hirr t (by omega))).mpr h)) (fun h => by cases h) (fun _ => ?_)
            refine g_iconst 57 C (nb 1) dL_treaties_56 rfl (by decide) ?_
            refine g_goto 62 C dL_treaties_57 (by decide) ?_
            refine g_top (v := (nb (fw_0 (gw_a w) t u))) (by unfold fw_0; rw [if_neg c, if_pos h]) ?_
            exact K62
          | false =>
            refine g_icmp_ne 56 60 C dL_treaties_53 (by decide) rfl (T := some ()) (E := none) (v := ()) (if_neg (fun hq => by rw [(mt_f1 (by omega) (by omega) (hirr t (by omega))).mp hq] at h; cases h)) (fun _ => ?_) (fun h => by cases h)
            refine g_bipush 62 C (nb 9) dL_treaties_60 rfl (by decide) ?_
            refine g_top (v := (nb (fw_0 (gw_a w) t u))) (by unfold fw_0; rw [if_neg c, if_neg (by rw [h]; decide)]) ?_
            exact K62
    induction d with
    | zero =>
        intro t M h1 hM
        refine g_iload 14 C dL_treaties_12 rfl rfl ?_
        refine g_iconst 15 C (nb 5) dL_treaties_14 rfl (by decide) ?_
        refine g_icmp_ge 18 101 C dL_treaties_15 (by decide) rfl (T := some ()) (E := none) (v := ()) (if_neg (nb_lt_f (by omega) (by omega))) (fun _ => ?_) (fun h => by cases h)
        have hu : t = 5 := by omega
        subst hu
        exact hendA M hM
    | succ d ih =>
        intro t M h1 hM
        refine g_iload 14 C dL_treaties_12 rfl rfl ?_
        refine g_iconst 15 C (nb 5) dL_treaties_14 rfl (by decide) ?_
        refine g_icmp_ge 18 101 C dL_treaties_15 (by decide) rfl (T := none) (E := some ()) (v := ()) (if_pos (nb_lt_t (by omega) (by omega))) (fun h => by cases h) (fun _ => ?_)
        refine g_iconst 19 C (nb 0) dL_treaties_18 rfl (by decide) ?_
        refine g_istore 21 C [(5, .int (nb 0)), (4, .int (nb t)), (3, .int (nb (mt_O (gw_a w) t))), (2, .ref q), (0, .ref (ad 0)), (1, .ref a)] dL_treaties_19 rfl (by decide) rfl ?_
        refine g_lv (lv2 := [(5, .int (nb 0)), (4, .int (nb t)), (3, .int (nb (mt_O (gw_a w) t))), (2, .ref q), (0, .ref (ad 0)), (1, .ref a)]) [0, 1, 2, 3, 4, 5] rfl ?_
        refine A2 t (by omega) (fun M hM => ?_) 5 0 M (by omega) (fun i j hi hj hc => hM i j hi hj (by omega))
        refine g_lv (lv2 := [(4, .int (nb t)), (3, .int (nb (mt_O (gw_a w) t + mt_I (gw_a w) t 5))), (2, .ref q), (0, .ref (ad 0)), (1, .ref a)]) [1, 2, 3, 4, 5] rfl ?_
        refine g_iinc 98 C 0 (nb (t + 1)) [(4, .int (nb (t + 1))), (3, .int (nb (mt_O (gw_a w) t + mt_I (gw_a w) t 5))), (2, .ref q), (0, .ref (ad 0)), (1, .ref a)] dL_treaties_95 rfl rfl (nb_succ t) (by decide) rfl ?_
        refine g_goto 12 C dL_treaties_98 (by decide) ?_
        exact ih (t + 1) M (by omega) (mt_PAn hM)
  have B1 : (∀ M, mt_PB (gw_a w) 5 0 0 M → sg_G p l e { frames := 5, cells := 6, slots := 30, locals := 130 } s m args below meth c D (va_A (sl_w Y ad σ (bx_W a v ++ [])) s.heap.size) 11 6 30 Q 178 [(4, .int (nb 5)), (3, .int (nb (mt_O (gw_a w) 5))), (2, .ref q), (0, .ref (ad 0)), (1, .ref a)] [] (sl_w Y ad σ (bx_W a v ++ mt_W Y q r M))) → ∀ (d k : Nat) (M : Nat → Nat → Nat), k + d = 5 → mt_PB (gw_a w) k 0 0 M → sg_G p l e { frames := 5, cells := 6, slots := 30, locals := 130 } s m args below meth c D (va_A (sl_w Y ad σ (bx_W a v ++ [])) s.heap.size) 11 6 30 Q 104 [(4, .int (nb k)), (3, .int (nb (mt_O (gw_a w) 5))), (2, .ref q), (0, .ref (ad 0)), (1, .ref a)] [] (sl_w Y ad σ (bx_W a v ++ mt_W Y q r M)) := by
    intro hendB d
    have B3 : ∀ k t, k < 5 → t < 5 → (∀ M, mt_PB (gw_a w) k t 5 M → sg_G p l e { frames := 5, cells := 6, slots := 30, locals := 130 } s m args below meth c D (va_A (sl_w Y ad σ (bx_W a v ++ [])) s.heap.size) 11 6 30 Q 166 [(6, .int (nb 5)), (5, .int (nb t)), (4, .int (nb k)), (3, .int (nb (mt_O (gw_a w) 5))), (2, .ref q), (0, .ref (ad 0)), (1, .ref a)] [] (sl_w Y ad σ (bx_W a v ++ mt_W Y q r M))) → ∀ (d u : Nat) (M : Nat → Nat → Nat), u + d = 5 → mt_PB (gw_a w) k t u M → sg_G p l e { frames := 5, cells := 6, slots := 30, locals := 130 } s m args below meth c D (va_A (sl_w Y ad σ (bx_W a v ++ [])) s.heap.size) 11 6 30 Q 122 [(6, .int (nb u)), (5, .int (nb t)), (4, .int (nb k)), (3, .int (nb (mt_O (gw_a w) 5))), (2, .ref q), (0, .ref (ad 0)), (1, .ref a)] [] (sl_w Y ad σ (bx_W a v ++ mt_W Y q r M)) := by
      intro k t hk ht hend d
      induction d with
      | zero =>
        intro u M h1 hM
        refine g_iload 124 C dL_treaties_122 rfl rfl ?_
        refine g_iconst 125 C (nb 5) dL_treaties_124 rfl (by decide) ?_
        refine g_icmp_ge 128 166 C dL_treaties_125 (by decide) rfl (T := some ()) (E := none) (v := ()) (if_neg (nb_lt_f (by omega) (by omega))) (fun _ => ?_) (fun h => by cases h)
        have hu : u = 5 := by omega
        subst hu
        exact hend M hM
      | succ d ih =>
        intro u M h1 hM
        have hu5 : u < 5 := by omega
        refine g_iload 124 C dL_treaties_122 rfl rfl ?_
        refine g_iconst 125 C (nb 5) dL_treaties_124 rfl (by decide) ?_
        refine g_icmp_ge 128 166 C dL_treaties_125 (by decide) rfl (T := none) (E := some ()) (v := ()) (if_pos (nb_lt_t (by omega) (by omega))) (fun h => by cases h) (fun _ => ?_)
        refine g_aload_n 129 C dL_treaties_128 rfl rfl rfl ?_
        refine g_iload 131 C dL_treaties_129 rfl rfl ?_
        refine mt_row 132 C (by omega) dL_treaties_131 rfl ?_
        refine g_iload 134 C dL_treaties_132 rfl rfl ?_
        refine g_aload_n 135 C dL_treaties_134 rfl rfl rfl ?_
        refine g_iload 137 C dL_treaties_135 rfl rfl ?_
        refine mt_row 138 C (by omega) dL_treaties_137 rfl ?_
        refine g_iload 140 C dL_treaties_138 rfl rfl ?_
        refine mt_get 141 C (by omega) (by omega) dL_treaties_140 rfl ?_
        refine g_aload_n 142 C dL_treaties_141 rfl rfl rfl ?_
        refine g_iload 144 C dL_treaties_142 rfl rfl ?_
        refine mt_row 145 C (by omega) dL_treaties_144 rfl ?_
        refine g_iload 147 C dL_treaties_145 rfl rfl ?_
        refine mt_get 148 C (by omega) (by omega) dL_treaties_147 rfl ?_
        refine g_aload_n 149 C dL_treaties_148 rfl rfl rfl ?_
        refine g_iload 151 C dL_treaties_149 rfl rfl ?_
        refine mt_row 152 C (by omega) dL_treaties_151 rfl ?_
        refine g_iload 154 C dL_treaties_152 rfl rfl ?_
        refine mt_get 155 C (by omega) (by omega) dL_treaties_154 rfl ?_
        refine g_iadd 156 C dL_treaties_155 rfl ?_
        refine g_top (v := (nb (M t k + M k u))) (nb_add _ _).symm ?_
        have g1 := mt_PB9 hM ht hu5
        have g2 := mt_PB9 hM ht hk
        have g3 := mt_PB9 hM hk hu5
        refine g_mmin 159 C ksL_treaties_m1 ksL_treaties_m2 ksL_treaties_m3 ksL_treaties_m4 (Nat.le_of_ble_eq_true rfl) (Nat.le_of_ble_eq_true rfl) (Nat.le_of_ble_eq_true rfl) (Nat.le_of_ble_eq_true rfl) dL_treaties_156 rfl ?_
        refine g_top (v := (nb (min (M t u) (M t k + M k u)))) (by rw [Nat.min_comm]; exact (bx_min (by omega) (by omega)).symm) ?_
        refine mt_put 160 C (by omega) (by omega) dL_treaties_159 rfl ?_
        refine g_iinc 163 C 0 (nb (u + 1)) [(6, .int (nb (u + 1))), (5, .int (nb t)), (4, .int (nb k)), (3, .int (nb (mt_O (gw_a w) 5))), (2, .ref q), (0, .ref (ad 0)), (1, .ref a)] dL_treaties_160 rfl rfl (nb_succ u) (by decide) rfl ?_
        refine g_goto 122 C dL_treaties_163 (by decide) ?_
        exact ih (u + 1) _ (by omega) (mt_PBs hM hk ht hu5)
    have B2 : ∀ k, k < 5 → (∀ M, mt_PB (gw_a w) k 5 0 M → sg_G p l e { frames := 5, cells := 6, slots := 30, locals := 130 } s m args below meth c D (va_A (sl_w Y ad σ (bx_W a v ++ [])) s.heap.size) 11 6 30 Q 172 [(5, .int (nb 5)), (4, .int (nb k)), (3, .int (nb (mt_O (gw_a w) 5))), (2, .ref q), (0, .ref (ad 0)), (1, .ref a)] [] (sl_w Y ad σ (bx_W a v ++ mt_W Y q r M))) → ∀ (d t : Nat) (M : Nat → Nat → Nat), t + d = 5 → mt_PB (gw_a w) k t 0 M → sg_G p l e { frames := 5, cells := 6, slots := 30, locals := 130 } s m args below meth c D (va_A (sl_w Y ad σ (bx_W a v ++ [])) s.heap.size) 11 6 30 Q 113 [(5, .int (nb t)), (4, .int (nb k)), (3, .int (nb (mt_O (gw_a w) 5))), (2, .ref q), (0, .ref (ad 0)), (1, .ref a)] [] (sl_w Y ad σ (bx_W a v ++ mt_W Y q r M)) := by
      intro k hk hend d
      induction d with
      | zero =>
        intro t M h1 hM
        refine g_iload 115 C dL_treaties_113 rfl rfl ?_
        refine g_iconst 116 C (nb 5) dL_treaties_115 rfl (by decide) ?_
        refine g_icmp_ge 119 172 C dL_treaties_116 (by decide) rfl (T := some ()) (E := none) (v := ()) (if_neg (nb_lt_f (by omega) (by omega))) (fun _ => ?_) (fun h => by cases h)
        have hu : t = 5 := by omega
        subst hu
        exact hend M hM
      | succ d ih =>
        intro t M h1 hM
        refine g_iload 115 C dL_treaties_113 rfl rfl ?_
        refine g_iconst 116 C (nb 5) dL_treaties_115 rfl (by decide) ?_
        refine g_icmp_ge 119 172 C dL_treaties_116 (by decide) rfl (T := none) (E := some ()) (v := ()) (if_pos (nb_lt_t (by omega) (by omega))) (fun h => by cases h) (fun _ => ?_)
        refine g_iconst 120 C (nb 0) dL_treaties_119 rfl (by decide) ?_
        refine g_istore 122 C [(6, .int (nb 0)), (5, .int (nb t)), (4, .int (nb k)), (3, .int (nb (mt_O (gw_a w) 5))), (2, .ref q), (0, .ref (ad 0)), (1, .ref a)] dL_treaties_120 rfl (by decide) rfl ?_
        refine B3 k t hk (by omega) (fun M hM => ?_) 5 0 M (by omega) (fun i j hi hj => ?_)
        · skip
          refine g_lv (lv2 := [(5, .int (nb t)), (4, .int (nb k)), (3, .int (nb (mt_O (gw_a w) 5))), (2, .ref q), (0, .ref (ad 0)), (1, .ref a)]) [1, 2, 3, 4, 5, 6] rfl ?_
          refine g_iinc 169 C 0 (nb (t + 1)) [(5, .int (nb (t + 1))), (4, .int (nb k)), (3, .int (nb (mt_O (gw_a w) 5))), (2, .ref q), (0, .ref (ad 0)), (1, .ref a)] dL_treaties_166 rfl rfl (nb_succ t) (by decide) rfl ?_
          refine g_goto 113 C dL_treaties_169 (by decide) ?_
          exact ih (t + 1) M (by omega) (mt_PBn hM)
        · exact hM i j hi hj
    induction d with
    | zero =>
        intro k M h1 hM
        refine g_iload 106 C dL_treaties_104 rfl rfl ?_
        refine g_iconst 107 C (nb 5) dL_treaties_106 rfl (by decide) ?_
        refine g_icmp_ge 110 178 C dL_treaties_107 (by decide) rfl (T := some ()) (E := none) (v := ()) (if_neg (nb_lt_f (by omega) (by omega))) (fun _ => ?_) (fun h => by cases h)
        have hu : k = 5 := by omega
        subst hu
        exact hendB M hM
    | succ d ih =>
        intro k M h1 hM
        refine g_iload 106 C dL_treaties_104 rfl rfl ?_
        refine g_iconst 107 C (nb 5) dL_treaties_106 rfl (by decide) ?_
        refine g_icmp_ge 110 178 C dL_treaties_107 (by decide) rfl (T := none) (E := some ()) (v := ()) (if_pos (nb_lt_t (by omega) (by omega))) (fun h => by cases h) (fun _ => ?_)
        refine g_iconst 111 C (nb 0) dL_treaties_110 rfl (by decide) ?_
        refine g_istore 113 C [(5, .int (nb 0)), (4, .int (nb k)), (3, .int (nb (mt_O (gw_a w) 5))), (2, .ref q), (0, .ref (ad 0)), (1, .ref a)] dL_treaties_111 rfl (by decide) rfl ?_
        refine B2 k (by omega) (fun M hM => ?_) 5 0 M (by omega) hM
        refine g_lv (lv2 := [(4, .int (nb k)), (3, .int (nb (mt_O (gw_a w) 5))), (2, .ref q), (0, .ref (ad 0)), (1, .ref a)]) [1, 2, 3, 4, 5] rfl ?_
        refine g_iinc 175 C 0 (nb (k + 1)) [(4, .int (nb (k + 1))), (3, .int (nb (mt_O (gw_a w) 5))), (2, .ref q), (0, .ref (ad 0)), (1, .ref a)] dL_treaties_172 rfl rfl (nb_succ k) (by decide) rfl ?_
        refine g_goto 104 C dL_treaties_175 (by decide) ?_
        exact ih (k + 1) M (by omega) (mt_PBk hM)
  have C1 : ∀ (H : Nat) (M : Nat → Nat → Nat) (v2 : Int32), 1 ≤ H → H ≤ 20 → (∀ i j, i < 5 → j < 5 → M i j = gf_d (gw_a w) i j) → ∀ (d t : Nat) (σ2 : sg_S), t + d = 5 → cl_A m0 w c0 σ2 → cl_Q σ σ2 → sg_G p l e { frames := 5, cells := 6, slots := 30, locals := 130 } s m args below meth c D (va_A (sl_w Y ad σ (bx_W a v ++ [])) s.heap.size) 11 6 30 Q 191 [(5, .int (nb t)), (4, .int (nb H)), (3, .int (nb (mt_O (gw_a w) 5))), (2, .ref q), (0, .ref (ad 0)), (1, .ref a)] [] (sl_w Y ad σ2 (bx_W a v2 ++ mt_W Y q r M)) := by
    intro H M v2 hH1 hH hM d
    have C2 : ∀ t, t < 5 → (∀ σ2, cl_A m0 w c0 σ2 → cl_Q σ σ2 → sg_G p l e { frames := 5, cells := 6, slots := 30, locals := 130 } s m args below meth c D (va_A (sl_w Y ad σ (bx_W a v ++ [])) s.heap.size) 11 6 30 Q 338 [(8, .int (nb 5)), (7, .int (nb (mt_r (gw_a w) t 5))), (6, .int (nb (mt_n (gw_a w) t 5))), (5, .int (nb t)), (4, .int (nb H)), (3, .int (nb (mt_O (gw_a w) 5))), (2, .ref q), (0, .ref (ad 0)), (1, .ref a)] [] (sl_w Y ad σ2 (bx_W a v2 ++ mt_W Y q r M))) → ∀ (d u : Nat) (σ2 : sg_S), u + d = 5 → cl_A m0 w c0 σ2 → cl_Q σ σ2 → sg_G p l e { frames := 5, cells := 6, slots := 30, locals := 130 } s m args below meth c D (va_A (sl_w Y ad σ (bx_W a v ++ [])) s.heap.size) 11 6 30 Q 206 [(8, .int (nb u)), (7, .int (nb (mt_r (gw_a w) t u))), (6, .int (nb (mt_n (gw_a w) t u))), (5, .int (nb t)), (4, .int (nb H)), (3, .int (nb (mt_O (gw_a w) 5))), (2, .ref q), (0, .ref (ad 0)), (1, .ref a)] [] (sl_w Y ad σ2 (bx_W a v2 ++ mt_W Y q r M)) := by
      intro t ht hend d
      induction d with
      | zero =>
        intro u σ2 h1 hA2 hQ2
        refine g_iload 208 C dL_treaties_206 rfl rfl ?_
        refine g_iconst 209 C (nb 5) dL_treaties_208 rfl (by decide) ?_
        refine g_icmp_ge 212 338 C dL_treaties_209 (by decide) rfl (T := some ()) (E := none) (v := ()) (if_neg (nb_lt_f (by omega) (by omega))) (fun _ => ?_) (fun h => by cases h)
        have hu : u = 5 := by omega
        subst hu
        exact hend σ2 hA2 hQ2
      | succ d ih =>
        intro u σ2 h1 hA2 hQ2
        have hu5 : u < 5 := by omega
        have hd := hM t u ht hu5
        have hb := mt_nB (gw_a w) t u
        refine g_iload 208 C dL_treaties_206 rfl rfl ?_
        refine g_iconst 209 C (nb 5) dL_treaties_208 rfl (by decide) ?_
        refine g_icmp_ge 212 338 C dL_treaties_209 (by decide) rfl (T := none) (E := some ()) (v := ()) (if_pos (nb_lt_t (by omega) (by omega))) (fun h => by cases h) (fun _ => ?_)
        have K256 : sg_G p l e { frames := 5, cells := 6, slots := 30, locals := 130 } s m args below meth c D (va_A (sl_w Y ad σ (bx_W a v ++ [])) s.heap.size) 11 6 30 Q 256 [(10, .int (nb (gf_g (gw_a w) t H u))), (9, .int (gf_far (gw_a w) t u)), (8, .int (nb u)), (7, .int (nb (mt_r (gw_a w) t u))), (6, .int (nb (mt_n (gw_a w) t u))), (5, .int (nb t)), (4, .int (nb H)), (3, .int (nb (mt_O (gw_a w) 5))), (2, .ref q), (0, .ref (ad 0)), (1, .ref a)] [] (sl_w Y ad σ2 (bx_W a v2 ++ mt_W Y q r M)) := by
          refine g_iload 258 C dL_treaties_256 rfl rfl ?_
          have K269 : sg_G p l e { frames := 5, cells := 6, slots := 30, locals := 130 } s m args below meth c D (va_A (sl_w Y ad σ (bx_W a v ++ [])) s.heap.size) 11 6 30 Q 269 [(10, .int (nb (gf_g (gw_a w) t H u))), (9, .int (gf_far (gw_a w) t u)), (8, .int (nb u)), (7, .int (nb (mt_r (gw_a w) t u))), (6, .int (nb (mt_n (gw_a w) t u))), (5, .int (nb t)), (4, .int (nb H)), (3, .int (nb (mt_O (gw_a w) 5))), (2, .ref q), (0, .ref (ad 0)), (1, .ref a)] [.int (nb (if gf_far (gw_a w) t u = 1 then 1 else 0)), .int (nb (mt_n (gw_a w) t u))] (sl_w Y ad σ2 (bx_W a v2 ++ mt_W Y q r M)) := by
            refine g_iadd 270 C dL_treaties_269 rfl ?_
            refine g_top (v := (nb (mt_n (gw_a w) t (u + 1)))) (nb_add _ _).symm ?_
            refine g_istore 272 C [(6, .int (nb (mt_n (gw_a w) t (u + 1)))), (10, .int (nb (gf_g (gw_a w) t H u))), (9, .int (gf_far (gw_a w) t u)), (8, .int (nb u)), (7, .int (nb (mt_r (gw_a w) t u))), (5, .int (nb t)), (4, .int (nb H)), (3, .int (nb (mt_O (gw_a w) 5))), (2, .ref q), (0, .ref (ad 0)), (1, .ref a)] dL_treaties_270 rfl (by decide) rfl ?_
            refine g_iload 274 C dL_treaties_272 rfl rfl ?_
            have K284 : sg_G p l e { frames := 5, cells := 6, slots := 30, locals := 130 } s m args below meth c D (va_A (sl_w Y ad σ (bx_W a v ++ [])) s.heap.size) 11 6 30 Q 284 [(6, .int (nb (mt_n (gw_a w) t (u + 1)))), (10, .int (nb (gf_g (gw_a w) t H u))), (9, .int (gf_far (gw_a w) t u)), (8, .int (nb u)), (7, .int (nb (mt_r (gw_a w) t u))), (5, .int (nb t)), (4, .int (nb H)), (3, .int (nb (mt_O (gw_a w) 5))), (2, .ref q), (0, .ref (ad 0)), (1, .ref a)] [.int (nb (if 0 < gf_far (gw_a w) t u then 1 else 0)), .int (nb (mt_r (gw_a w) t u))] (sl_w Y ad σ2 (bx_W a v2 ++ mt_W Y q r M)) := by
              refine g_iadd 285 C dL_treaties_284 rfl ?_
              refine g_top (v := (nb (mt_r (gw_a w) t (u + 1)))) (nb_add _ _).symm ?_
              refine g_istore 287 C [(7, .int (nb (mt_r (gw_a w) t (u + 1)))), (6, .int (nb (mt_n (gw_a w) t (u + 1)))), (10, .int (nb (gf_g (gw_a w) t H u))), (9, .int (gf_far (gw_a w) t u)), (8, .int (nb u)), (5, .int (nb t)), (4, .int (nb H)), (3, .int (nb (mt_O (gw_a w) 5))), (2, .ref q), (0, .ref (ad 0)), (1, .ref a)] dL_treaties_285 rfl (by decide) rfl ?_
              refine g_aload_n 288 C dL_treaties_287 rfl rfl rfl ?_
              refine g_iload 290 C dL_treaties_288 rfl rfl ?_
              refine g_iload 292 C dL_treaties_290 rfl rfl ?_
              refine lc_far 295 C gL_treaties_X7_far ⟨(Nat.le_of_ble_eq_true rfl), (Nat.le_of_ble_eq_true rfl)⟩ (Nat.le_of_ble_eq_true rfl) (ce_far hA2 ht hu5) ⟨(Nat.le_of_ble_eq_true rfl), (Nat.le_of_ble_eq_true rfl)⟩ dL_treaties_292 rfl ?_
              refine g_iload 297 C dL_treaties_295 rfl rfl ?_
              refine g_icmp_ne 300 330 C dL_treaties_297 (by decide) rfl (T := none) (E := some ()) (v := ()) (if_pos rfl) (fun h => by cases h) (fun _ => ?_)
              refine g_aload_n 301 C dL_treaties_300 rfl rfl rfl ?_
              refine g_iload 303 C dL_treaties_301 rfl rfl ?_
              refine g_iload 305 C dL_treaties_303 rfl rfl ?_
              refine g_iload 307 C dL_treaties_305 rfl rfl ?_
              obtain ⟨σ3, e3, f3⟩ := ce_driz hA2 ht hu5 hH1 hH
              refine lc_drizzle 310 C gL_treaties_X7_drizzle ⟨(Nat.le_of_ble_eq_true rfl), (Nat.le_of_ble_eq_true rfl)⟩ (Nat.le_of_ble_eq_true rfl) e3 ⟨(Nat.le_of_ble_eq_true rfl), (Nat.le_of_ble_eq_true rfl)⟩ dL_treaties_307 rfl ?_
              have f4 := mg_f1 (b := kb_TN) f3
              have hA3 := cl_Af hA2 f4
              generalize sg_mg kb_TN σ2 σ3 = σ4 at f4 hA3
              refine g_iload 312 C dL_treaties_310 rfl rfl ?_
              refine g_icmp_ne 315 330 C dL_treaties_312 (by decide) rfl (T := none) (E := some ()) (v := ()) (if_pos rfl) (fun h => by cases h) (fun _ => ?_)
              refine g_aload_n 316 C dL_treaties_315 rfl rfl rfl ?_
              refine g_iload 318 C dL_treaties_316 rfl rfl ?_
              refine g_iload 320 C dL_treaties_318 rfl rfl ?_
              refine g_iload 322 C dL_treaties_320 rfl rfl ?_
              refine lc_drizzleAgain 325 C gL_treaties_X7_drizzleAgain ⟨(Nat.le_of_ble_eq_true rfl), (Nat.le_of_ble_eq_true rfl)⟩ (Nat.le_of_ble_eq_true rfl) (ce_drizA hA3 ht hu5 hH1 hH) ⟨(Nat.le_of_ble_eq_true rfl), (Nat.le_of_ble_eq_true rfl)⟩ dL_treaties_322 rfl ?_
              refine g_iload 327 C dL_treaties_325 rfl rfl ?_
              refine g_icmp_eq 330 332 C dL_treaties_327 (by decide) rfl (T := some ()) (E := none) (v := ()) (if_pos rfl) (fun _ => ?_) (fun h => by cases h)
              refine g_iinc 335 C 4 (nb (u + 1)) [(8, .int (nb (u + 1))), (7, .int (nb (mt_r (gw_a w) t (u + 1)))), (6, .int (nb (mt_n (gw_a w) t (u + 1)))), (10, .int (nb (gf_g (gw_a w) t H u))), (9, .int (gf_far (gw_a w) t u)), (5, .int (nb t)), (4, .int (nb H)), (3, .int (nb (mt_O (gw_a w) 5))), (2, .ref q), (0, .ref (ad 0)), (1, .ref a)] dL_treaties_332 rfl rfl (nb_succ u) (by decide) rfl ?_
              refine g_goto 206 C dL_treaties_335 (by decide) ?_
              refine g_lv (lv2 := [(8, .int (nb (u + 1))), (7, .int (nb (mt_r (gw_a w) t (u + 1)))), (6, .int (nb (mt_n (gw_a w) t (u + 1)))), (5, .int (nb t)), (4, .int (nb H)), (3, .int (nb (mt_O (gw_a w) 5))), (2, .ref q), (0, .ref (ad 0)), (1, .ref a)]) [0, 1, 2, 5, 6, 7, 8, 9, 10] rfl ?_
              exact ih (u + 1) σ4 (by omega) hA3 (cl_Qt hQ2 (cl_Qf f4))
            refine g_iload 276 C dL_treaties_274 rfl rfl ?_
            by_cases c0 : 0 < gf_far (gw_a w) t u
            · skip
              refine g_if_le 279 283 C dL_treaties_276 (by decide) rfl (T := none) (E := some ()) (v := ()) (if_pos c0) (fun h => by cases h) (fun _ => ?_)
              refine g_iconst 280 C (nb 1) dL_treaties_279 rfl (by decide) ?_
              refine g_goto 284 C dL_treaties_280 (by decide) ?_
              refine g_top (v := (nb (if 0 < gf_far (gw_a w) t u then 1 else 0))) (by rw [if_pos c0]) ?_
              exact K284
            · skip
              refine g_if_le 279 283 C dL_treaties_276 (by decide) rfl (T := some ()) (E := none) (v := ()) (if_neg c0) (fun _ => ?_) (fun h => by cases h)
              refine g_iconst 284 C (nb 0) dL_treaties_283 rfl (by decide) ?_
              refine g_top (v := (nb (if 0 < gf_far (gw_a w) t u then 1 else 0))) (by rw [if_neg c0]) ?_
              exact K284
          refine g_iload 260 C dL_treaties_258 rfl rfl ?_
          refine g_iconst 261 C (nb 1) dL_treaties_260 rfl (by decide) ?_
          by_cases c1 : gf_far (gw_a w) t u = 1
          · skip
            refine g_icmp_ne 264 268 C dL_treaties_261 (by decide) rfl (T := none) (E := some ()) (v := ()) (if_pos c1) (fun h => by cases h) (fun _ => ?_)
            refine g_iconst 265 C (nb 1) dL_treaties_264 rfl (by decide) ?_
            refine g_goto 269 C dL_treaties_265 (by decide) ?_
            refine g_top (v := (nb (if gf_far (gw_a w) t u = 1 then 1 else 0))) (by rw [if_pos c1]) ?_
            exact K269
          · skip
            refine g_icmp_ne 264 268 C dL_treaties_261 (by decide) rfl (T := some ()) (E := none) (v := ()) (if_neg c1) (fun _ => ?_) (fun h => by cases h)
            refine g_iconst 269 C (nb 0) dL_treaties_268 rfl (by decide) ?_
            refine g_top (v := (nb (if gf_far (gw_a w) t u = 1 then 1 else 0))) (by rw [if_neg c1]) ?_
            exact K269
        refine g_aload_n 213 C dL_treaties_212 rfl rfl rfl ?_
        refine g_iload 215 C dL_treaties_213 rfl rfl ?_
        refine mt_row 216 C (by omega) dL_treaties_215 rfl ?_
        refine g_iload 218 C dL_treaties_216 rfl rfl ?_
        refine mt_get 219 C (by omega) (by omega) dL_treaties_218 rfl ?_
        rw [hd]
        refine g_bipush 221 C (nb 9) dL_treaties_219 rfl (by decide) ?_
        by_cases c : gf_d (gw_a w) t u ≤ 4
        · skip
          refine g_icmp_ge 224 234 C dL_treaties_221 (by decide) rfl (T := none) (E := some ()) (v := ()) (if_pos (nb_lt_t (by omega) (by decide))) (fun h => by cases h) (fun _ => ?_)
          refine g_aload_n 225 C dL_treaties_224 rfl rfl rfl ?_
          refine g_iload 227 C dL_treaties_225 rfl rfl ?_
          refine mt_row 228 C (by omega) dL_treaties_227 rfl ?_
          refine g_iload 230 C dL_treaties_228 rfl rfl ?_
          refine mt_get 231 C (by omega) (by omega) dL_treaties_230 rfl ?_
          rw [hd]
          refine g_goto 236 C dL_treaties_231 (by decide) ?_
          refine g_top (v := (gf_far (gw_a w) t u)) (by unfold gf_far; rw [if_pos c]) ?_
          refine g_istore 238 C [(9, .int (gf_far (gw_a w) t u)), (8, .int (nb u)), (7, .int (nb (mt_r (gw_a w) t u))), (6, .int (nb (mt_n (gw_a w) t u))), (5, .int (nb t)), (4, .int (nb H)), (3, .int (nb (mt_O (gw_a w) 5))), (2, .ref q), (0, .ref (ad 0)), (1, .ref a)] dL_treaties_236 rfl (by decide) rfl ?_
          refine g_iload 240 C dL_treaties_238 rfl rfl ?_
          have ef : gf_far (gw_a w) t u = nb (gf_d (gw_a w) t u) := by unfold gf_far; rw [if_pos c]
          refine g_if_ge 243 247 C dL_treaties_240 (by decide) rfl (T := some ()) (E := none) (v := ()) (if_neg (by rw [ef]; exact nb_nneg (by omega))) (fun _ => ?_) (fun h => by cases h)
          refine g_iload 249 C dL_treaties_247 rfl rfl ?_
          refine g_iconst 250 C (nb 1) dL_treaties_249 rfl (by decide) ?_
          refine g_iload 252 C dL_treaties_250 rfl rfl ?_
          refine g_ishl 253 C dL_treaties_252 rfl ?_
          refine g_top (v := (nb 1 <<< (nb (gf_d (gw_a w) t u) &&& 31))) (by rw [ef]) ?_
          refine g_idivc 254 C dL_treaties_253 rfl (mt_sh c hH).2 ?_
          refine g_top (v := (nb (gf_g (gw_a w) t H u))) (by rw [(mt_sh c hH).1]; unfold gf_g; rw [if_pos c]) ?_
          refine g_istore 256 C [(10, .int (nb (gf_g (gw_a w) t H u))), (9, .int (gf_far (gw_a w) t u)), (8, .int (nb u)), (7, .int (nb (mt_r (gw_a w) t u))), (6, .int (nb (mt_n (gw_a w) t u))), (5, .int (nb t)), (4, .int (nb H)), (3, .int (nb (mt_O (gw_a w) 5))), (2, .ref q), (0, .ref (ad 0)), (1, .ref a)] dL_treaties_254 rfl (by decide) rfl ?_
          refine g_lv (lv2 := [(10, .int (nb (gf_g (gw_a w) t H u))), (9, .int (gf_far (gw_a w) t u)), (8, .int (nb u)), (7, .int (nb (mt_r (gw_a w) t u))), (6, .int (nb (mt_n (gw_a w) t u))), (5, .int (nb t)), (4, .int (nb H)), (3, .int (nb (mt_O (gw_a w) 5))), (2, .ref q), (0, .ref (ad 0)), (1, .ref a)]) [0, 1, 2, 3, 4, 5, 6, 7, 8, 9, 10] rfl ?_
          exact K256
        · skip
          have c9 : gf_d (gw_a w) t u = 9 := by have := gf_d49 (gw_a w) t u; omega
          refine g_icmp_ge 224 234 C dL_treaties_221 (by decide) rfl (T := some ()) (E := none) (v := ()) (if_neg (nb_lt_f (by omega) (by omega))) (fun _ => ?_) (fun h => by cases h)
          refine g_bipush 236 C (-6) dL_treaties_234 rfl (by decide) ?_
          refine g_top (v := (gf_far (gw_a w) t u)) (by unfold gf_far; rw [if_neg c]) ?_
          refine g_istore 238 C [(9, .int (gf_far (gw_a w) t u)), (8, .int (nb u)), (7, .int (nb (mt_r (gw_a w) t u))), (6, .int (nb (mt_n (gw_a w) t u))), (5, .int (nb t)), (4, .int (nb H)), (3, .int (nb (mt_O (gw_a w) 5))), (2, .ref q), (0, .ref (ad 0)), (1, .ref a)] dL_treaties_236 rfl (by decide) rfl ?_
          refine g_iload 240 C dL_treaties_238 rfl rfl ?_
          have ef : gf_far (gw_a w) t u = -6 := by unfold gf_far; rw [if_neg c]
          refine g_if_ge 243 247 C dL_treaties_240 (by decide) rfl (T := none) (E := some ()) (v := ()) (if_pos (by rw [ef]; decide)) (fun h => by cases h) (fun _ => ?_)
          refine g_iconst 244 C (nb 0) dL_treaties_243 rfl (by decide) ?_
          refine g_goto 254 C dL_treaties_244 (by decide) ?_
          refine g_top (v := (nb (gf_g (gw_a w) t H u))) (by unfold gf_g; rw [if_neg c]) ?_
          refine g_istore 256 C [(10, .int (nb (gf_g (gw_a w) t H u))), (9, .int (gf_far (gw_a w) t u)), (8, .int (nb u)), (7, .int (nb (mt_r (gw_a w) t u))), (6, .int (nb (mt_n (gw_a w) t u))), (5, .int (nb t)), (4, .int (nb H)), (3, .int (nb (mt_O (gw_a w) 5))), (2, .ref q), (0, .ref (ad 0)), (1, .ref a)] dL_treaties_254 rfl (by decide) rfl ?_
          refine g_lv (lv2 := [(10, .int (nb (gf_g (gw_a w) t H u))), (9, .int (gf_far (gw_a w) t u)), (8, .int (nb u)), (7, .int (nb (mt_r (gw_a w) t u))), (6, .int (nb (mt_n (gw_a w) t u))), (5, .int (nb t)), (4, .int (nb H)), (3, .int (nb (mt_O (gw_a w) 5))), (2, .ref q), (0, .ref (ad 0)), (1, .ref a)]) [0, 1, 2, 3, 4, 5, 6, 7, 8, 9, 10] rfl ?_
          exact K256
    induction d with
    | zero =>
        intro t σ2 h1 hA2 hQ2
        refine g_iload 193 C dL_treaties_191 rfl rfl ?_
        refine g_iconst 194 C (nb 5) dL_treaties_193 rfl (by decide) ?_
        refine g_icmp_ge 197 371 C dL_treaties_194 (by decide) rfl (T := some ()) (E := none) (v := ()) (if_neg (nb_lt_f (by omega) (by omega))) (fun _ => ?_) (fun h => by cases h)
        have hu : t = 5 := by omega
        subst hu
        refine g_aload_n 372 C dL_treaties_371 rfl rfl rfl ?_
        refine g_iconst 373 C (nb 2) dL_treaties_372 rfl (by decide) ?_
        refine lc_account 376 C gL_treaties_X7_account ⟨(Nat.le_of_ble_eq_true rfl), (Nat.le_of_ble_eq_true rfl)⟩ (Nat.le_of_ble_eq_true rfl) (ce_account hA2 (k := 2) (by decide)) ⟨(Nat.le_of_ble_eq_true rfl), (Nat.le_of_ble_eq_true rfl)⟩ dL_treaties_373 rfl ?_
        refine g_iload_n 377 C dL_treaties_376 rfl rfl rfl ?_
        refine g_icmp_ne 380 407 C dL_treaties_377 (by decide) rfl (T := none) (E := some ()) (v := ()) (if_pos (congrArg nb (show gt_n w / 2 = mt_O (gw_a w) 5 by rw [fd_all hs hdg0, mt_O5]))) (fun h => by cases h) (fun _ => ?_)
        refine g_aload_n 381 C dL_treaties_380 rfl rfl rfl ?_
        refine g_iconst 382 C (nb 0) dL_treaties_381 rfl (by decide) ?_
        refine g_iconst 383 C (nb 5) dL_treaties_382 rfl (by decide) ?_
        refine lc_far 386 C gL_treaties_X7_far ⟨(Nat.le_of_ble_eq_true rfl), (Nat.le_of_ble_eq_true rfl)⟩ (Nat.le_of_ble_eq_true rfl) (ce_far5 σ2) ⟨(Nat.le_of_ble_eq_true rfl), (Nat.le_of_ble_eq_true rfl)⟩ dL_treaties_383 rfl ?_
        refine g_iconst 387 C (-1) dL_treaties_386 rfl (by decide) ?_
        refine g_icmp_ne 390 407 C dL_treaties_387 (by decide) rfl (T := none) (E := some ()) (v := ()) (if_pos rfl) (fun h => by cases h) (fun _ => ?_)
        refine g_aload_n 391 C dL_treaties_390 rfl rfl rfl ?_
        refine g_iconst 392 C (nb 0) dL_treaties_391 rfl (by decide) ?_
        refine g_bipush 394 C (nb 21) dL_treaties_392 rfl (by decide) ?_
        refine g_iconst 395 C (nb 0) dL_treaties_394 rfl (by decide) ?_
        refine lc_drizzle 398 C gL_treaties_X7_drizzle ⟨(Nat.le_of_ble_eq_true rfl), (Nat.le_of_ble_eq_true rfl)⟩ (Nat.le_of_ble_eq_true rfl) (ce_drizB σ2) ⟨(Nat.le_of_ble_eq_true rfl), (Nat.le_of_ble_eq_true rfl)⟩ dL_treaties_395 rfl ?_
        rw [mg_self]
        refine g_bipush 400 C (-2) dL_treaties_398 rfl (by decide) ?_
        refine g_icmp_ne 403 407 C dL_treaties_400 (by decide) rfl (T := none) (E := some ()) (v := ()) (if_pos rfl) (fun h => by cases h) (fun _ => ?_)
        refine g_iconst 404 C (nb 1) dL_treaties_403 rfl (by decide) ?_
        refine g_goto 408 C dL_treaties_404 (by decide) ?_
        refine ls_drop (X2 := bx_W a v2 ++ []) (mt_W Y q r M) (by rw [List.append_nil]; exact List.perm_append_comm) ?_
        exact g_iretX (P := (fun (r : Int32) (u : sg_S × Int32) => r = 1 ∧ cl_A m0 w c0 u.1 ∧ cl_Q σ u.1)) (w' := (fun u => sl_w Y ad u.1 (bx_W a u.2 ++ []))) (σ2, v2) C hr rfl hQ hsz dL_treaties_408 ⟨rfl, hA2, hQ2⟩ rfl
    | succ d ih =>
        intro t σ2 h1 hA2 hQ2
        refine g_iload 193 C dL_treaties_191 rfl rfl ?_
        refine g_iconst 194 C (nb 5) dL_treaties_193 rfl (by decide) ?_
        refine g_icmp_ge 197 371 C dL_treaties_194 (by decide) rfl (T := none) (E := some ()) (v := ()) (if_pos (nb_lt_t (by omega) (by omega))) (fun h => by cases h) (fun _ => ?_)
        refine g_iconst 198 C (nb 0) dL_treaties_197 rfl (by decide) ?_
        refine g_istore 200 C [(6, .int (nb 0)), (5, .int (nb t)), (4, .int (nb H)), (3, .int (nb (mt_O (gw_a w) 5))), (2, .ref q), (0, .ref (ad 0)), (1, .ref a)] dL_treaties_198 rfl (by decide) rfl ?_
        refine g_iconst 201 C (nb 0) dL_treaties_200 rfl (by decide) ?_
        refine g_istore 203 C [(7, .int (nb 0)), (6, .int (nb 0)), (5, .int (nb t)), (4, .int (nb H)), (3, .int (nb (mt_O (gw_a w) 5))), (2, .ref q), (0, .ref (ad 0)), (1, .ref a)] dL_treaties_201 rfl (by decide) rfl ?_
        refine g_iconst 204 C (nb 0) dL_treaties_203 rfl (by decide) ?_
        refine g_istore 206 C [(8, .int (nb 0)), (7, .int (nb 0)), (6, .int (nb 0)), (5, .int (nb t)), (4, .int (nb H)), (3, .int (nb (mt_O (gw_a w) 5))), (2, .ref q), (0, .ref (ad 0)), (1, .ref a)] dL_treaties_204 rfl (by decide) rfl ?_
        refine C2 t (by omega) (fun σ2 hA2 hQ2 => ?_) 5 0 σ2 (by omega) hA2 hQ2
        refine g_aload_n 339 C dL_treaties_338 rfl rfl rfl ?_
        refine g_iload 341 C dL_treaties_339 rfl rfl ?_
        refine g_iconst 342 C (nb 5) dL_treaties_341 rfl (by decide) ?_
        refine lc_townOf 345 C gL_treaties_X7_townOf ⟨(Nat.le_of_ble_eq_true rfl), (Nat.le_of_ble_eq_true rfl)⟩ (Nat.le_of_ble_eq_true rfl) (ce_town5 hA2 (by omega : t < 5)) ⟨(Nat.le_of_ble_eq_true rfl), (Nat.le_of_ble_eq_true rfl)⟩ dL_treaties_342 rfl ?_
        refine g_iload 347 C dL_treaties_345 rfl rfl ?_
        refine g_icmp_ne 350 363 C dL_treaties_347 (by decide) rfl (T := none) (E := some ()) (v := ()) (if_pos (congrArg nb (mt_n5 (by omega) (hirr t (by omega))).symm)) (fun h => by cases h) (fun _ => ?_)
        refine g_aload_n 351 C dL_treaties_350 rfl rfl rfl ?_
        refine g_iload 353 C dL_treaties_351 rfl rfl ?_
        refine g_bipush 355 C (nb 6) dL_treaties_353 rfl (by decide) ?_
        refine lc_townOf 358 C gL_treaties_X7_townOf ⟨(Nat.le_of_ble_eq_true rfl), (Nat.le_of_ble_eq_true rfl)⟩ (Nat.le_of_ble_eq_true rfl) (ce_town6 hA2 (by omega : t < 5)) ⟨(Nat.le_of_ble_eq_true rfl), (Nat.le_of_ble_eq_true rfl)⟩ dL_treaties_355 rfl ?_
        refine g_iload 360 C dL_treaties_358 rfl rfl ?_
        refine g_icmp_eq 363 365 C dL_treaties_360 (by decide) rfl (T := some ()) (E := none) (v := ()) (if_pos (congrArg nb (mt_r5 (gw_a w) t).symm)) (fun _ => ?_) (fun h => by cases h)
        refine g_lv (lv2 := [(5, .int (nb t)), (4, .int (nb H)), (3, .int (nb (mt_O (gw_a w) 5))), (2, .ref q), (0, .ref (ad 0)), (1, .ref a)]) [3, 4, 5, 6, 7, 8] rfl ?_
        refine g_iinc 368 C 0 (nb (t + 1)) [(5, .int (nb (t + 1))), (4, .int (nb H)), (3, .int (nb (mt_O (gw_a w) 5))), (2, .ref q), (0, .ref (ad 0)), (1, .ref a)] dL_treaties_365 rfl rfl (nb_succ t) (by decide) rfl ?_
        refine g_goto 191 C dL_treaties_368 (by decide) ?_
        exact ih (t + 1) σ2 (by omega) hA2 hQ2
  refine A1 (fun M hM => ?_) 5 0 _ (by omega) (fun i j hi hj hc => absurd hc (by omega))
  · skip
    refine g_iconst 102 C (nb 0) dL_treaties_101 rfl (by decide) ?_
    refine g_istore 104 C [(4, .int (nb 0)), (3, .int (nb (mt_O (gw_a w) 5))), (2, .ref q), (0, .ref (ad 0)), (1, .ref a)] dL_treaties_102 rfl (by decide) rfl ?_
    refine g_lv (lv2 := [(4, .int (nb 0)), (3, .int (nb (mt_O (gw_a w) 5))), (2, .ref q), (0, .ref (ad 0)), (1, .ref a)]) [0, 1, 2, 3, 4] rfl ?_
    refine B1 (fun M hM => ?_) 5 0 M (by omega) (mt_PAB hM)
    refine g_iconst 179 C (nb 1) dL_treaties_178 rfl (by decide) ?_
    refine g_aload_n 180 C dL_treaties_179 rfl rfl rfl ?_
    refine g_bipush 182 C (nb 20) dL_treaties_180 rfl (by decide) ?_
    refine lb_next 185 C gL_treaties_X8_next ⟨(Nat.le_of_ble_eq_true rfl), (Nat.le_of_ble_eq_true rfl)⟩ (Nat.le_of_ble_eq_true rfl) (by decide) (by decide) ⟨(Nat.le_of_ble_eq_true rfl), (Nat.le_of_ble_eq_true rfl)⟩ dL_treaties_182 rfl (fun r1 v2 hr1 => ?_)
    refine g_iadd 186 C dL_treaties_185 rfl ?_
    refine g_top (v := (nb (1 + r1))) (nb_add _ _).symm ?_
    refine g_istore 188 C [(4, .int (nb (1 + r1))), (3, .int (nb (mt_O (gw_a w) 5))), (2, .ref q), (0, .ref (ad 0)), (1, .ref a)] dL_treaties_186 rfl (by decide) rfl ?_
    refine g_iconst 189 C (nb 0) dL_treaties_188 rfl (by decide) ?_
    refine g_istore 191 C [(5, .int (nb 0)), (4, .int (nb (1 + r1))), (3, .int (nb (mt_O (gw_a w) 5))), (2, .ref q), (0, .ref (ad 0)), (1, .ref a)] dL_treaties_189 rfl (by decide) rfl ?_
    refine g_lv (lv2 := [(5, .int (nb 0)), (4, .int (nb (1 + r1))), (3, .int (nb (mt_O (gw_a w) 5))), (2, .ref q), (0, .ref (ad 0)), (1, .ref a)]) [0, 1, 2, 3, 4, 5] rfl ?_
    exact C1 (1 + r1) M v2 (by omega) (by omega) (fun i j hi hj => mt_PC hM hi hj) 5 0 σ (by omega) hA (cl_Qr σ)
section SLT2
variable {p : Program} {l : Launch} {e : Env} {R : Room} {s : State} {m : MethodId} {args : Array Value} {below : List Frame} {meth : Method} {c : Code} {D : va_G} {Y : Nat → ClassId} {Z : (Nat → Prop) → State → Heap → Prop} {A : Nat → Prop} {nL : Nat} {cells slots : Nat} {Q : State → Prop} {cc : ByteArray} {own : String} {Ts : List Cond} {pc : Nat} {lv : List (Nat × Value)} {st : List Value} {X : va_W} {ad b : Nat → Nat} {σ κ : sg_S} {index : Nat} {jK jV jT : Nat → Nat} {f : Nat → Nat} {n0 : Nat} {m0 c0 : Nat} {w : Nat → Nat}
theorem lk_treaties (n : Nat) (C : sg_C p R s m args meth c cc nL own Ts D Y Z A) (hZN : sg_ZN Z) (hA : cl_A m0 w c0 σ) (hG : GoodIn Ts (va_wsS own index yL_treaties wsL_treaties)) (hR : 6 ≤ R.frames ∧ 160 ≤ R.locals) (hroom : (st.map fun v => v.category).sum ≤ 8) {a : Nat} {v : Int32} (hcs : cells + 6 ≤ R.cells ∧ slots + 30 ≤ R.slots) (hdg : decode cc pc = .ok (.invokestatic index, 3)) (hn : pc + 3 = n) (kk : ∀ (σ2 : sg_S) (u : Int32), cl_A m0 w c0 σ2 → cl_Q σ σ2 → sg_G p l e R s m args below meth c D A nL (cells + 6) (slots + 30) Q n lv (.int 1 :: st) (sl_w Y ad σ2 (bx_W a u ++ X))) : sg_G p l e R s m args below meth c D A nL cells slots Q pc lv (.ref a :: .ref (ad 0) :: st) (sl_w Y ad σ (bx_W a v ++ X)) := by
  refine g_XSi n C (As := [.ref (ad 0), .ref a]) (st := st) (n0 := 2) (k_treaties l C.2.2.2.2.2.2.2.1 hZN hA (a := a) (v := v)) hG ⟨by decide +kernel, by decide +kernel, rfl⟩ rfl hR (sl_cutL Y ad σ (bx_W a v ++ []) X (fun _ => ad) (fun u : sg_S × Int32 => u.1) (fun u => bx_W a u.2 ++ [])) rfl hroom hcs hdg hn rfl (fun r u hu => ?_)
  obtain ⟨rfl, h1, h2⟩ := hu
  exact kk u.1 u.2 h1 h2
end SLT2
