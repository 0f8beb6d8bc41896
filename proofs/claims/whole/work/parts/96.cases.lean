/-! THE LAW: its cases, one by one -/
def sl_Cx (p : Program) (s : State) (m : MethodId) (meth : Method) (c : Code) (D : va_G) (Y : Nat → ClassId) (jK jV jT : Nat → Nat) (b L : Nat) (xs : Nat → Int32) : Prop := (∀ d : Drawn, s.drawn.sameBut d lw_cs → sg_C p room_1 (s.setDrawn d) m #[Value.ref b] meth c cL_law 8 RL wsL_law D Y (sl_Z jK jV jT) (sl_A s)) ∧ va_X b L xs s s.heap ∧ b < s.heap.size ∧ L ≤ 2048
def sl_G (p : Program) (l : Launch) (e : Env) (s : State) (m : MethodId) (below : List Frame) (meth : Method) (c : Code) (D : va_G) (Y : Nat → ClassId) (b : Nat) (d0 : Drawn) (j i pc : Nat) (ad : Nat → Nat) (σ : sg_S) (ad8 : Nat → Nat) (τ : sg_S) : Prop := sg_G p l e room_1 (s.setDrawn d0) m #[Value.ref b] below meth c D (sl_A s) 8 (200 + 60 * j) (2300 + 10801 * j) (lw_Z below #[Value.ref b] s) pc [(0, .ref b), (1, .ref (ad 0)), (2, .ref (ad8 0)), (3, .int (nI i))] [] (sl_w Y ad σ ad8 τ)
section SLC
variable {p : Program} {l : Launch} {e : Env} {s : State} {m : MethodId} {below : List Frame} {meth : Method} {c : Code} {D : va_G} {Y : Nat → ClassId} {jK jV jT : Nat → Nat} {b L : Nat} {xs : Nat → Int32} {d0 : Drawn} {j i mm : Nat} {ad ad8 : Nat → Nat} {σ τ : sg_S}
set_option maxHeartbeats 8000000 in
set_option maxRecDepth 100000 in
theorem sl_case0 (K : sl_Cx p s m meth c D Y jK jV jT b L xs) (hd0 : s.drawn.sameBut d0 lw_cs) (hj : j < 512) (hi : i + 4 ≤ L) (hG : gx_G mm σ τ) (hm : mm < 8800) (kk : ∀ (d1 : Drawn) (ad2 : Nat → Nat) (σ2 τ2 : sg_S), s.drawn.sameBut d1 lw_cs → gx_G (mm + 12) σ2 τ2 → sl_G p l e s m below meth c D Y b d1 (j + 1) i 1101 ad2 σ2 ad8 τ2) : sl_G p l e s m below meth c D Y b d0 j i 180 ad σ ad8 τ := by
  have C := K.1 d0 hd0
  have hX : va_X b L xs (s.setDrawn d0) (s.setDrawn d0).heap := K.2.1
  have hbA : ¬ sl_A s b := Nat.not_le.mpr K.2.2.1
  by_cases hz : xs (i + 3) = 0
  · obtain ⟨r, σ2, τ2, e7, e8, hG2⟩ := gk_treaty hG hm (xs (i + 1)) (xs (i + 2)) (0)
    refine g_aload_n 181 C dL_law_180 rfl rfl rfl ?_
    refine g_aload_n 182 C dL_law_181 rfl rfl rfl ?_
    refine g_iload_n 183 C dL_law_182 rfl rfl rfl ?_
    refine g_iconst 184 C 1 dL_law_183 rfl (by decide) ?_
    refine g_iadd 185 C dL_law_184 rfl ?_
    refine g_top (v := nI (i + 1)) (nI_1 i).symm ?_
    refine g_sld 186 C hX K.2.2.1 hbA K.2.2.2 (by omega) dL_law_185 rfl ?_
    refine g_aload_n 187 C dL_law_186 rfl rfl rfl ?_
    refine g_iload_n 188 C dL_law_187 rfl rfl rfl ?_
    refine g_iconst 189 C 2 dL_law_188 rfl (by decide) ?_
    refine g_iadd 190 C dL_law_189 rfl ?_
    refine g_top (v := nI (i + 2)) (sl_2 i).symm ?_
    refine g_sld 191 C hX K.2.2.1 hbA K.2.2.2 (by omega) dL_law_190 rfl ?_
    refine g_aload_n 192 C dL_law_191 rfl rfl rfl ?_
    refine g_iload_n 193 C dL_law_192 rfl rfl rfl ?_
    refine g_iconst 194 C 3 dL_law_193 rfl (by decide) ?_
    refine g_iadd 195 C dL_law_194 rfl ?_
    refine g_top (v := nI (i + 3)) (sl_3 i).symm ?_
    refine g_sld 196 C hX K.2.2.1 hbA K.2.2.2 (by omega) dL_law_195 rfl ?_
    refine g_if_eq 199 203 C dL_law_196 (by decide) rfl (T := some ()) (E := none) (v := ()) (if_pos hz) (fun _ => ?_) (fun h => by cases h)
    refine g_iconst 204 C 0 dL_law_203 rfl (by decide) ?_
    refine g_callViP 207 C (As := [.int (xs (i + 1)), .int (xs (i + 2)), .int 0]) (st := []) (n0 := 3) (ci := 8) (q0 := 13) (c_X7_treaty l (sl_Zok jK jV jT) (ad := ad) e7) gL_law_X7_treaty ⟨rfl, by decide +kernel, by decide +kernel, rfl⟩ rfl ⟨(Nat.le_of_ble_eq_true rfl), (Nat.le_of_ble_eq_true rfl)⟩ rfl rfl (cut_TNLBH Y ad σ σ2 ad8 τ) rfl (Nat.le_of_ble_eq_true rfl) ⟨by show 200 + 60 * j + 0 ≤ 600000; omega, by show 2300 + 10801 * j + 0 ≤ 7302249; omega⟩ dL_law_204 rfl rfl ?_
    refine g_aload_n 208 C dL_law_207 rfl rfl rfl ?_
    refine g_aload_n 209 C dL_law_208 rfl rfl rfl ?_
    refine g_iload_n 210 C dL_law_209 rfl rfl rfl ?_
    refine g_iconst 211 C 1 dL_law_210 rfl (by decide) ?_
    refine g_iadd 212 C dL_law_211 rfl ?_
    refine g_top (v := nI (i + 1)) (nI_1 i).symm ?_
    refine g_sld 213 C hX K.2.2.1 hbA K.2.2.2 (by omega) dL_law_212 rfl ?_
    refine g_aload_n 214 C dL_law_213 rfl rfl rfl ?_
    refine g_iload_n 215 C dL_law_214 rfl rfl rfl ?_
    refine g_iconst 216 C 2 dL_law_215 rfl (by decide) ?_
    refine g_iadd 217 C dL_law_216 rfl ?_
    refine g_top (v := nI (i + 2)) (sl_2 i).symm ?_
    refine g_sld 218 C hX K.2.2.1 hbA K.2.2.2 (by omega) dL_law_217 rfl ?_
    refine g_aload_n 219 C dL_law_218 rfl rfl rfl ?_
    refine g_iload_n 220 C dL_law_219 rfl rfl rfl ?_
    refine g_iconst 221 C 3 dL_law_220 rfl (by decide) ?_
    refine g_iadd 222 C dL_law_221 rfl ?_
    refine g_top (v := nI (i + 3)) (sl_3 i).symm ?_
    refine g_sld 223 C hX K.2.2.1 hbA K.2.2.2 (by omega) dL_law_222 rfl ?_
    refine g_if_eq 226 230 C dL_law_223 (by decide) rfl (T := some ()) (E := none) (v := ()) (if_pos hz) (fun _ => ?_) (fun h => by cases h)
    refine g_iconst 231 C 0 dL_law_230 rfl (by decide) ?_
    refine g_callViP 234 C (As := [.int (xs (i + 1)), .int (xs (i + 2)), .int 0]) (st := [.int r]) (n0 := 3) (ci := 9) (q0 := 0) (c_X8_treaty l (sl_Zok jK jV jT) (ad := ad8) e8) gL_law_X8_treaty ⟨rfl, by decide +kernel, by decide +kernel, rfl⟩ rfl ⟨(Nat.le_of_ble_eq_true rfl), (Nat.le_of_ble_eq_true rfl)⟩ rfl rfl (cut_X8 Y ad (sg_mg kb_TNLBH σ σ2) ad8 τ τ2) rfl (Nat.le_of_ble_eq_true rfl) ⟨by show 200 + 60 * j + 0 ≤ 600000; omega, by show 2300 + 10801 * j + 0 ≤ 7302249; omega⟩ dL_law_231 rfl rfl ?_
    refine g_icmp_eq 237 1101 C dL_law_234 (by decide) rfl (T := some ()) (E := none) (v := ()) (if_pos rfl) (fun _ => ?_) (fun h => by cases h)
    refine g_widen (200 + 60 * (j + 1)) (2300 + 10801 * (j + 1)) (by omega) (by omega) ?_
    exact kk d0 ad (sg_mg kb_TNLBH σ σ2) τ2 hd0 hG2
  · obtain ⟨r, σ2, τ2, e7, e8, hG2⟩ := gk_treaty hG hm (xs (i + 1)) (xs (i + 2)) (1)
    refine g_aload_n 181 C dL_law_180 rfl rfl rfl ?_
    refine g_aload_n 182 C dL_law_181 rfl rfl rfl ?_
    refine g_iload_n 183 C dL_law_182 rfl rfl rfl ?_
    refine g_iconst 184 C 1 dL_law_183 rfl (by decide) ?_
    refine g_iadd 185 C dL_law_184 rfl ?_
    refine g_top (v := nI (i + 1)) (nI_1 i).symm ?_
    refine g_sld 186 C hX K.2.2.1 hbA K.2.2.2 (by omega) dL_law_185 rfl ?_
    refine g_aload_n 187 C dL_law_186 rfl rfl rfl ?_
    refine g_iload_n 188 C dL_law_187 rfl rfl rfl ?_
    refine g_iconst 189 C 2 dL_law_188 rfl (by decide) ?_
    refine g_iadd 190 C dL_law_189 rfl ?_
    refine g_top (v := nI (i + 2)) (sl_2 i).symm ?_
    refine g_sld 191 C hX K.2.2.1 hbA K.2.2.2 (by omega) dL_law_190 rfl ?_
    refine g_aload_n 192 C dL_law_191 rfl rfl rfl ?_
    refine g_iload_n 193 C dL_law_192 rfl rfl rfl ?_
    refine g_iconst 194 C 3 dL_law_193 rfl (by decide) ?_
    refine g_iadd 195 C dL_law_194 rfl ?_
    refine g_top (v := nI (i + 3)) (sl_3 i).symm ?_
    refine g_sld 196 C hX K.2.2.1 hbA K.2.2.2 (by omega) dL_law_195 rfl ?_
    refine g_if_eq 199 203 C dL_law_196 (by decide) rfl (T := none) (E := some ()) (v := ()) (if_neg hz) (fun h => by cases h) (fun _ => ?_)
    refine g_iconst 200 C 1 dL_law_199 rfl (by decide) ?_
    refine g_goto 204 C dL_law_200 (by decide) ?_
    refine g_callViP 207 C (As := [.int (xs (i + 1)), .int (xs (i + 2)), .int 1]) (st := []) (n0 := 3) (ci := 8) (q0 := 13) (c_X7_treaty l (sl_Zok jK jV jT) (ad := ad) e7) gL_law_X7_treaty ⟨rfl, by decide +kernel, by decide +kernel, rfl⟩ rfl ⟨(Nat.le_of_ble_eq_true rfl), (Nat.le_of_ble_eq_true rfl)⟩ rfl rfl (cut_TNLBH Y ad σ σ2 ad8 τ) rfl (Nat.le_of_ble_eq_true rfl) ⟨by show 200 + 60 * j + 0 ≤ 600000; omega, by show 2300 + 10801 * j + 0 ≤ 7302249; omega⟩ dL_law_204 rfl rfl ?_
    refine g_aload_n 208 C dL_law_207 rfl rfl rfl ?_
    refine g_aload_n 209 C dL_law_208 rfl rfl rfl ?_
    refine g_iload_n 210 C dL_law_209 rfl rfl rfl ?_
    refine g_iconst 211 C 1 dL_law_210 rfl (by decide) ?_
    refine g_iadd 212 C dL_law_211 rfl ?_
    refine g_top (v := nI (i + 1)) (nI_1 i).symm ?_
    refine g_sld 213 C hX K.2.2.1 hbA K.2.2.2 (by omega) dL_law_212 rfl ?_
    refine g_aload_n 214 C dL_law_213 rfl rfl rfl ?_
    refine g_iload_n 215 C dL_law_214 rfl rfl rfl ?_
    refine g_iconst 216 C 2 dL_law_215 rfl (by decide) ?_
    refine g_iadd 217 C dL_law_216 rfl ?_
    refine g_top (v := nI (i + 2)) (sl_2 i).symm ?_
    refine g_sld 218 C hX K.2.2.1 hbA K.2.2.2 (by omega) dL_law_217 rfl ?_
    refine g_aload_n 219 C dL_law_218 rfl rfl rfl ?_
    refine g_iload_n 220 C dL_law_219 rfl rfl rfl ?_
    refine g_iconst 221 C 3 dL_law_220 rfl (by decide) ?_
    refine g_iadd 222 C dL_law_221 rfl ?_
    refine g_top (v := nI (i + 3)) (sl_3 i).symm ?_
    refine g_sld 223 C hX K.2.2.1 hbA K.2.2.2 (by omega) dL_law_222 rfl ?_
    refine g_if_eq 226 230 C dL_law_223 (by decide) rfl (T := none) (E := some ()) (v := ()) (if_neg hz) (fun h => by cases h) (fun _ => ?_)
    refine g_iconst 227 C 1 dL_law_226 rfl (by decide) ?_
    refine g_goto 231 C dL_law_227 (by decide) ?_
    refine g_callViP 234 C (As := [.int (xs (i + 1)), .int (xs (i + 2)), .int 1]) (st := [.int r]) (n0 := 3) (ci := 9) (q0 := 0) (c_X8_treaty l (sl_Zok jK jV jT) (ad := ad8) e8) gL_law_X8_treaty ⟨rfl, by decide +kernel, by decide +kernel, rfl⟩ rfl ⟨(Nat.le_of_ble_eq_true rfl), (Nat.le_of_ble_eq_true rfl)⟩ rfl rfl (cut_X8 Y ad (sg_mg kb_TNLBH σ σ2) ad8 τ τ2) rfl (Nat.le_of_ble_eq_true rfl) ⟨by show 200 + 60 * j + 0 ≤ 600000; omega, by show 2300 + 10801 * j + 0 ≤ 7302249; omega⟩ dL_law_231 rfl rfl ?_
    refine g_icmp_eq 237 1101 C dL_law_234 (by decide) rfl (T := some ()) (E := none) (v := ()) (if_pos rfl) (fun _ => ?_) (fun h => by cases h)
    refine g_widen (200 + 60 * (j + 1)) (2300 + 10801 * (j + 1)) (by omega) (by omega) ?_
    exact kk d0 ad (sg_mg kb_TNLBH σ σ2) τ2 hd0 hG2
set_option maxHeartbeats 8000000 in
set_option maxRecDepth 100000 in
theorem sl_case1 (K : sl_Cx p s m meth c D Y jK jV jT b L xs) (hd0 : s.drawn.sameBut d0 lw_cs) (hj : j < 512) (hi : i + 4 ≤ L) (hG : gx_G mm σ τ) (hm : mm < 8800) (kk : ∀ (d1 : Drawn) (ad2 : Nat → Nat) (σ2 τ2 : sg_S), s.drawn.sameBut d1 lw_cs → gx_G (mm + 12) σ2 τ2 → sl_G p l e s m below meth c D Y b d1 (j + 1) i 1101 ad2 σ2 ad8 τ2) : sl_G p l e s m below meth c D Y b d0 j i 239 ad σ ad8 τ := by
  have C := K.1 d0 hd0
  have hX : va_X b L xs (s.setDrawn d0) (s.setDrawn d0).heap := K.2.1
  have hbA : ¬ sl_A s b := Nat.not_le.mpr K.2.2.1
  obtain ⟨r, σ2, τ2, e7, e8, hG2⟩ := gk_credit hG hm (xs (i + 1)) (xs (i + 2)) (xs (i + 3))
  refine g_aload_n 240 C dL_law_239 rfl rfl rfl ?_
  refine g_aload_n 241 C dL_law_240 rfl rfl rfl ?_
  refine g_iload_n 242 C dL_law_241 rfl rfl rfl ?_
  refine g_iconst 243 C 1 dL_law_242 rfl (by decide) ?_
  refine g_iadd 244 C dL_law_243 rfl ?_
  refine g_top (v := nI (i + 1)) (nI_1 i).symm ?_
  refine g_sld 245 C hX K.2.2.1 hbA K.2.2.2 (by omega) dL_law_244 rfl ?_
  refine g_aload_n 246 C dL_law_245 rfl rfl rfl ?_
  refine g_iload_n 247 C dL_law_246 rfl rfl rfl ?_
  refine g_iconst 248 C 2 dL_law_247 rfl (by decide) ?_
  refine g_iadd 249 C dL_law_248 rfl ?_
  refine g_top (v := nI (i + 2)) (sl_2 i).symm ?_
  refine g_sld 250 C hX K.2.2.1 hbA K.2.2.2 (by omega) dL_law_249 rfl ?_
  refine g_aload_n 251 C dL_law_250 rfl rfl rfl ?_
  refine g_iload_n 252 C dL_law_251 rfl rfl rfl ?_
  refine g_iconst 253 C 3 dL_law_252 rfl (by decide) ?_
  refine g_iadd 254 C dL_law_253 rfl ?_
  refine g_top (v := nI (i + 3)) (sl_3 i).symm ?_
  refine g_sld 255 C hX K.2.2.1 hbA K.2.2.2 (by omega) dL_law_254 rfl ?_
  refine g_callViP 258 C (As := [.int (xs (i + 1)), .int (xs (i + 2)), .int (xs (i + 3))]) (st := []) (n0 := 3) (ci := 8) (q0 := 13) (c_X7_credit l (sl_Zok jK jV jT) (ad := ad) e7) gL_law_X7_credit ⟨rfl, by decide +kernel, by decide +kernel, rfl⟩ rfl ⟨(Nat.le_of_ble_eq_true rfl), (Nat.le_of_ble_eq_true rfl)⟩ rfl rfl (cut_TNLBH Y ad σ σ2 ad8 τ) rfl (Nat.le_of_ble_eq_true rfl) ⟨by show 200 + 60 * j + 0 ≤ 600000; omega, by show 2300 + 10801 * j + 0 ≤ 7302249; omega⟩ dL_law_255 rfl rfl ?_
  refine g_aload_n 259 C dL_law_258 rfl rfl rfl ?_
  refine g_aload_n 260 C dL_law_259 rfl rfl rfl ?_
  refine g_iload_n 261 C dL_law_260 rfl rfl rfl ?_
  refine g_iconst 262 C 1 dL_law_261 rfl (by decide) ?_
  refine g_iadd 263 C dL_law_262 rfl ?_
  refine g_top (v := nI (i + 1)) (nI_1 i).symm ?_
  refine g_sld 264 C hX K.2.2.1 hbA K.2.2.2 (by omega) dL_law_263 rfl ?_
  refine g_aload_n 265 C dL_law_264 rfl rfl rfl ?_
  refine g_iload_n 266 C dL_law_265 rfl rfl rfl ?_
  refine g_iconst 267 C 2 dL_law_266 rfl (by decide) ?_
  refine g_iadd 268 C dL_law_267 rfl ?_
  refine g_top (v := nI (i + 2)) (sl_2 i).symm ?_
  refine g_sld 269 C hX K.2.2.1 hbA K.2.2.2 (by omega) dL_law_268 rfl ?_
  refine g_aload_n 270 C dL_law_269 rfl rfl rfl ?_
  refine g_iload_n 271 C dL_law_270 rfl rfl rfl ?_
  refine g_iconst 272 C 3 dL_law_271 rfl (by decide) ?_
  refine g_iadd 273 C dL_law_272 rfl ?_
  refine g_top (v := nI (i + 3)) (sl_3 i).symm ?_
  refine g_sld 274 C hX K.2.2.1 hbA K.2.2.2 (by omega) dL_law_273 rfl ?_
  refine g_callViP 277 C (As := [.int (xs (i + 1)), .int (xs (i + 2)), .int (xs (i + 3))]) (st := [.int r]) (n0 := 3) (ci := 9) (q0 := 0) (c_X8_credit l (sl_Zok jK jV jT) (ad := ad8) e8) gL_law_X8_credit ⟨rfl, by decide +kernel, by decide +kernel, rfl⟩ rfl ⟨(Nat.le_of_ble_eq_true rfl), (Nat.le_of_ble_eq_true rfl)⟩ rfl rfl (cut_X8 Y ad (sg_mg kb_TNLBH σ σ2) ad8 τ τ2) rfl (Nat.le_of_ble_eq_true rfl) ⟨by show 200 + 60 * j + 0 ≤ 600000; omega, by show 2300 + 10801 * j + 0 ≤ 7302249; omega⟩ dL_law_274 rfl rfl ?_
  refine g_icmp_eq 280 1101 C dL_law_277 (by decide) rfl (T := some ()) (E := none) (v := ()) (if_pos rfl) (fun _ => ?_) (fun h => by cases h)
  refine g_widen (200 + 60 * (j + 1)) (2300 + 10801 * (j + 1)) (by omega) (by omega) ?_
  exact kk d0 ad (sg_mg kb_TNLBH σ σ2) τ2 hd0 hG2
set_option maxHeartbeats 8000000 in
set_option maxRecDepth 100000 in
theorem sl_case2 (K : sl_Cx p s m meth c D Y jK jV jT b L xs) (hd0 : s.drawn.sameBut d0 lw_cs) (hj : j < 512) (hi : i + 4 ≤ L) (hG : gx_G mm σ τ) (hm : mm < 8800) (kk : ∀ (d1 : Drawn) (ad2 : Nat → Nat) (σ2 τ2 : sg_S), s.drawn.sameBut d1 lw_cs → gx_G (mm + 12) σ2 τ2 → sl_G p l e s m below meth c D Y b d1 (j + 1) i 1101 ad2 σ2 ad8 τ2) : sl_G p l e s m below meth c D Y b d0 j i 282 ad σ ad8 τ := by
  have C := K.1 d0 hd0
  have hX : va_X b L xs (s.setDrawn d0) (s.setDrawn d0).heap := K.2.1
  have hbA : ¬ sl_A s b := Nat.not_le.mpr K.2.2.1
  obtain ⟨r, σ2, τ2, e7, e8, hG2⟩ := gk_repay hG hm (xs (i + 1))
  refine g_aload_n 283 C dL_law_282 rfl rfl rfl ?_
  refine g_aload_n 284 C dL_law_283 rfl rfl rfl ?_
  refine g_iload_n 285 C dL_law_284 rfl rfl rfl ?_
  refine g_iconst 286 C 1 dL_law_285 rfl (by decide) ?_
  refine g_iadd 287 C dL_law_286 rfl ?_
  refine g_top (v := nI (i + 1)) (nI_1 i).symm ?_
  refine g_sld 288 C hX K.2.2.1 hbA K.2.2.2 (by omega) dL_law_287 rfl ?_
  refine g_callViP 291 C (As := [.int (xs (i + 1))]) (st := []) (n0 := 1) (ci := 8) (q0 := 13) (c_X7_repay l (sl_Zok jK jV jT) (ad := ad) e7) gL_law_X7_repay ⟨rfl, by decide +kernel, by decide +kernel, rfl⟩ rfl ⟨(Nat.le_of_ble_eq_true rfl), (Nat.le_of_ble_eq_true rfl)⟩ rfl rfl (cut_TNLBH Y ad σ σ2 ad8 τ) rfl (Nat.le_of_ble_eq_true rfl) ⟨by show 200 + 60 * j + 0 ≤ 600000; omega, by show 2300 + 10801 * j + 0 ≤ 7302249; omega⟩ dL_law_288 rfl rfl ?_
  refine g_aload_n 292 C dL_law_291 rfl rfl rfl ?_
  refine g_aload_n 293 C dL_law_292 rfl rfl rfl ?_
  refine g_iload_n 294 C dL_law_293 rfl rfl rfl ?_
  refine g_iconst 295 C 1 dL_law_294 rfl (by decide) ?_
  refine g_iadd 296 C dL_law_295 rfl ?_
  refine g_top (v := nI (i + 1)) (nI_1 i).symm ?_
  refine g_sld 297 C hX K.2.2.1 hbA K.2.2.2 (by omega) dL_law_296 rfl ?_
  refine g_callViP 300 C (As := [.int (xs (i + 1))]) (st := [.int r]) (n0 := 1) (ci := 9) (q0 := 0) (c_X8_repay l (sl_Zok jK jV jT) (ad := ad8) e8) gL_law_X8_repay ⟨rfl, by decide +kernel, by decide +kernel, rfl⟩ rfl ⟨(Nat.le_of_ble_eq_true rfl), (Nat.le_of_ble_eq_true rfl)⟩ rfl rfl (cut_X8 Y ad (sg_mg kb_TNLBH σ σ2) ad8 τ τ2) rfl (Nat.le_of_ble_eq_true rfl) ⟨by show 200 + 60 * j + 0 ≤ 600000; omega, by show 2300 + 10801 * j + 0 ≤ 7302249; omega⟩ dL_law_297 rfl rfl ?_
  refine g_icmp_eq 303 1101 C dL_law_300 (by decide) rfl (T := some ()) (E := none) (v := ()) (if_pos rfl) (fun _ => ?_) (fun h => by cases h)
  refine g_widen (200 + 60 * (j + 1)) (2300 + 10801 * (j + 1)) (by omega) (by omega) ?_
  exact kk d0 ad (sg_mg kb_TNLBH σ σ2) τ2 hd0 hG2
set_option maxHeartbeats 8000000 in
set_option maxRecDepth 100000 in
theorem sl_case3 (K : sl_Cx p s m meth c D Y jK jV jT b L xs) (hd0 : s.drawn.sameBut d0 lw_cs) (hj : j < 512) (hi : i + 4 ≤ L) (hG : gx_G mm σ τ) (hm : mm < 8800) (kk : ∀ (d1 : Drawn) (ad2 : Nat → Nat) (σ2 τ2 : sg_S), s.drawn.sameBut d1 lw_cs → gx_G (mm + 12) σ2 τ2 → sl_G p l e s m below meth c D Y b d1 (j + 1) i 1101 ad2 σ2 ad8 τ2) : sl_G p l e s m below meth c D Y b d0 j i 305 ad σ ad8 τ := by
  have C := K.1 d0 hd0
  have hX : va_X b L xs (s.setDrawn d0) (s.setDrawn d0).heap := K.2.1
  have hbA : ¬ sl_A s b := Nat.not_le.mpr K.2.2.1
  obtain ⟨r, σ2, τ2, e7, e8, hG2⟩ := gk_rain hG hm (xs (i + 1)) (xs (i + 2))
  refine g_aload_n 306 C dL_law_305 rfl rfl rfl ?_
  refine g_aload_n 307 C dL_law_306 rfl rfl rfl ?_
  refine g_iload_n 308 C dL_law_307 rfl rfl rfl ?_
  refine g_iconst 309 C 1 dL_law_308 rfl (by decide) ?_
  refine g_iadd 310 C dL_law_309 rfl ?_
  refine g_top (v := nI (i + 1)) (nI_1 i).symm ?_
  refine g_sld 311 C hX K.2.2.1 hbA K.2.2.2 (by omega) dL_law_310 rfl ?_
  refine g_aload_n 312 C dL_law_311 rfl rfl rfl ?_
  refine g_iload_n 313 C dL_law_312 rfl rfl rfl ?_
  refine g_iconst 314 C 2 dL_law_313 rfl (by decide) ?_
  refine g_iadd 315 C dL_law_314 rfl ?_
  refine g_top (v := nI (i + 2)) (sl_2 i).symm ?_
  refine g_sld 316 C hX K.2.2.1 hbA K.2.2.2 (by omega) dL_law_315 rfl ?_
  refine g_callViP 319 C (As := [.int (xs (i + 1)), .int (xs (i + 2))]) (st := []) (n0 := 2) (ci := 8) (q0 := 13) (c_X7_rain l (sl_Zok jK jV jT) (ad := ad) e7) gL_law_X7_rain ⟨rfl, by decide +kernel, by decide +kernel, rfl⟩ rfl ⟨(Nat.le_of_ble_eq_true rfl), (Nat.le_of_ble_eq_true rfl)⟩ rfl rfl (cut_TNLBH Y ad σ σ2 ad8 τ) rfl (Nat.le_of_ble_eq_true rfl) ⟨by show 200 + 60 * j + 0 ≤ 600000; omega, by show 2300 + 10801 * j + 0 ≤ 7302249; omega⟩ dL_law_316 rfl rfl ?_
  refine g_aload_n 320 C dL_law_319 rfl rfl rfl ?_
  refine g_aload_n 321 C dL_law_320 rfl rfl rfl ?_
  refine g_iload_n 322 C dL_law_321 rfl rfl rfl ?_
  refine g_iconst 323 C 1 dL_law_322 rfl (by decide) ?_
  refine g_iadd 324 C dL_law_323 rfl ?_
  refine g_top (v := nI (i + 1)) (nI_1 i).symm ?_
  refine g_sld 325 C hX K.2.2.1 hbA K.2.2.2 (by omega) dL_law_324 rfl ?_
  refine g_aload_n 326 C dL_law_325 rfl rfl rfl ?_
  refine g_iload_n 327 C dL_law_326 rfl rfl rfl ?_
  refine g_iconst 328 C 2 dL_law_327 rfl (by decide) ?_
  refine g_iadd 329 C dL_law_328 rfl ?_
  refine g_top (v := nI (i + 2)) (sl_2 i).symm ?_
  refine g_sld 330 C hX K.2.2.1 hbA K.2.2.2 (by omega) dL_law_329 rfl ?_
  refine g_callViP 333 C (As := [.int (xs (i + 1)), .int (xs (i + 2))]) (st := [.int r]) (n0 := 2) (ci := 9) (q0 := 0) (c_X8_rain l (sl_Zok jK jV jT) (ad := ad8) e8) gL_law_X8_rain ⟨rfl, by decide +kernel, by decide +kernel, rfl⟩ rfl ⟨(Nat.le_of_ble_eq_true rfl), (Nat.le_of_ble_eq_true rfl)⟩ rfl rfl (cut_X8 Y ad (sg_mg kb_TNLBH σ σ2) ad8 τ τ2) rfl (Nat.le_of_ble_eq_true rfl) ⟨by show 200 + 60 * j + 0 ≤ 600000; omega, by show 2300 + 10801 * j + 0 ≤ 7302249; omega⟩ dL_law_330 rfl rfl ?_
  refine g_icmp_eq 336 1101 C dL_law_333 (by decide) rfl (T := some ()) (E := none) (v := ()) (if_pos rfl) (fun _ => ?_) (fun h => by cases h)
  refine g_widen (200 + 60 * (j + 1)) (2300 + 10801 * (j + 1)) (by omega) (by omega) ?_
  exact kk d0 ad (sg_mg kb_TNLBH σ σ2) τ2 hd0 hG2
set_option maxHeartbeats 8000000 in
set_option maxRecDepth 100000 in
theorem sl_case4 (K : sl_Cx p s m meth c D Y jK jV jT b L xs) (hd0 : s.drawn.sameBut d0 lw_cs) (hj : j < 512) (hi : i + 4 ≤ L) (hG : gx_G mm σ τ) (hm : mm < 8800) (kk : ∀ (d1 : Drawn) (ad2 : Nat → Nat) (σ2 τ2 : sg_S), s.drawn.sameBut d1 lw_cs → gx_G (mm + 12) σ2 τ2 → sl_G p l e s m below meth c D Y b d1 (j + 1) i 1101 ad2 σ2 ad8 τ2) : sl_G p l e s m below meth c D Y b d0 j i 338 ad σ ad8 τ := by
  have C := K.1 d0 hd0
  have hX : va_X b L xs (s.setDrawn d0) (s.setDrawn d0).heap := K.2.1
  have hbA : ¬ sl_A s b := Nat.not_le.mpr K.2.2.1
  obtain ⟨r, σ2, τ2, e7, e8, hG2⟩ := gk_bail hG hm (xs (i + 1)) (xs (i + 2))
  refine g_aload_n 339 C dL_law_338 rfl rfl rfl ?_
  refine g_aload_n 340 C dL_law_339 rfl rfl rfl ?_
  refine g_iload_n 341 C dL_law_340 rfl rfl rfl ?_
  refine g_iconst 342 C 1 dL_law_341 rfl (by decide) ?_
  refine g_iadd 343 C dL_law_342 rfl ?_
  refine g_top (v := nI (i + 1)) (nI_1 i).symm ?_
  refine g_sld 344 C hX K.2.2.1 hbA K.2.2.2 (by omega) dL_law_343 rfl ?_
  refine g_aload_n 345 C dL_law_344 rfl rfl rfl ?_
  refine g_iload_n 346 C dL_law_345 rfl rfl rfl ?_
  refine g_iconst 347 C 2 dL_law_346 rfl (by decide) ?_
  refine g_iadd 348 C dL_law_347 rfl ?_
  refine g_top (v := nI (i + 2)) (sl_2 i).symm ?_
  refine g_sld 349 C hX K.2.2.1 hbA K.2.2.2 (by omega) dL_law_348 rfl ?_
  refine g_callViP 352 C (As := [.int (xs (i + 1)), .int (xs (i + 2))]) (st := []) (n0 := 2) (ci := 8) (q0 := 13) (c_X7_bail l (sl_Zok jK jV jT) (ad := ad) e7) gL_law_X7_bail ⟨rfl, by decide +kernel, by decide +kernel, rfl⟩ rfl ⟨(Nat.le_of_ble_eq_true rfl), (Nat.le_of_ble_eq_true rfl)⟩ rfl rfl (cut_TNLBH Y ad σ σ2 ad8 τ) rfl (Nat.le_of_ble_eq_true rfl) ⟨by show 200 + 60 * j + 0 ≤ 600000; omega, by show 2300 + 10801 * j + 0 ≤ 7302249; omega⟩ dL_law_349 rfl rfl ?_
  refine g_aload_n 353 C dL_law_352 rfl rfl rfl ?_
  refine g_aload_n 354 C dL_law_353 rfl rfl rfl ?_
  refine g_iload_n 355 C dL_law_354 rfl rfl rfl ?_
  refine g_iconst 356 C 1 dL_law_355 rfl (by decide) ?_
  refine g_iadd 357 C dL_law_356 rfl ?_
  refine g_top (v := nI (i + 1)) (nI_1 i).symm ?_
  refine g_sld 358 C hX K.2.2.1 hbA K.2.2.2 (by omega) dL_law_357 rfl ?_
  refine g_aload_n 359 C dL_law_358 rfl rfl rfl ?_
  refine g_iload_n 360 C dL_law_359 rfl rfl rfl ?_
  refine g_iconst 361 C 2 dL_law_360 rfl (by decide) ?_
  refine g_iadd 362 C dL_law_361 rfl ?_
  refine g_top (v := nI (i + 2)) (sl_2 i).symm ?_
  refine g_sld 363 C hX K.2.2.1 hbA K.2.2.2 (by omega) dL_law_362 rfl ?_
  refine g_callViP 366 C (As := [.int (xs (i + 1)), .int (xs (i + 2))]) (st := [.int r]) (n0 := 2) (ci := 9) (q0 := 0) (c_X8_bail l (sl_Zok jK jV jT) (ad := ad8) e8) gL_law_X8_bail ⟨rfl, by decide +kernel, by decide +kernel, rfl⟩ rfl ⟨(Nat.le_of_ble_eq_true rfl), (Nat.le_of_ble_eq_true rfl)⟩ rfl rfl (cut_X8 Y ad (sg_mg kb_TNLBH σ σ2) ad8 τ τ2) rfl (Nat.le_of_ble_eq_true rfl) ⟨by show 200 + 60 * j + 0 ≤ 600000; omega, by show 2300 + 10801 * j + 0 ≤ 7302249; omega⟩ dL_law_363 rfl rfl ?_
  refine g_icmp_eq 369 1101 C dL_law_366 (by decide) rfl (T := some ()) (E := none) (v := ()) (if_pos rfl) (fun _ => ?_) (fun h => by cases h)
  refine g_widen (200 + 60 * (j + 1)) (2300 + 10801 * (j + 1)) (by omega) (by omega) ?_
  exact kk d0 ad (sg_mg kb_TNLBH σ σ2) τ2 hd0 hG2
set_option maxHeartbeats 8000000 in
set_option maxRecDepth 100000 in
theorem sl_case5 (K : sl_Cx p s m meth c D Y jK jV jT b L xs) (hd0 : s.drawn.sameBut d0 lw_cs) (hj : j < 512) (hi : i + 4 ≤ L) (hG : gx_G mm σ τ) (hm : mm < 8800) (kk : ∀ (d1 : Drawn) (ad2 : Nat → Nat) (σ2 τ2 : sg_S), s.drawn.sameBut d1 lw_cs → gx_G (mm + 12) σ2 τ2 → sl_G p l e s m below meth c D Y b d1 (j + 1) i 1101 ad2 σ2 ad8 τ2) : sl_G p l e s m below meth c D Y b d0 j i 371 ad σ ad8 τ := by
  have C := K.1 d0 hd0
  have hX : va_X b L xs (s.setDrawn d0) (s.setDrawn d0).heap := K.2.1
  have hbA : ¬ sl_A s b := Nat.not_le.mpr K.2.2.1
  obtain ⟨r, σ2, τ2, e7, e8, hG2⟩ := gk_buy hG hm (xs (i + 1))
  refine g_aload_n 372 C dL_law_371 rfl rfl rfl ?_
  refine g_aload_n 373 C dL_law_372 rfl rfl rfl ?_
  refine g_iload_n 374 C dL_law_373 rfl rfl rfl ?_
  refine g_iconst 375 C 1 dL_law_374 rfl (by decide) ?_
  refine g_iadd 376 C dL_law_375 rfl ?_
  refine g_top (v := nI (i + 1)) (nI_1 i).symm ?_
  refine g_sld 377 C hX K.2.2.1 hbA K.2.2.2 (by omega) dL_law_376 rfl ?_
  refine g_callViP 380 C (As := [.int (xs (i + 1))]) (st := []) (n0 := 1) (ci := 8) (q0 := 13) (c_X7_buy l (sl_Zok jK jV jT) (ad := ad) e7) gL_law_X7_buy ⟨rfl, by decide +kernel, by decide +kernel, rfl⟩ rfl ⟨(Nat.le_of_ble_eq_true rfl), (Nat.le_of_ble_eq_true rfl)⟩ rfl rfl (cut_TNLBH Y ad σ σ2 ad8 τ) rfl (Nat.le_of_ble_eq_true rfl) ⟨by show 200 + 60 * j + 0 ≤ 600000; omega, by show 2300 + 10801 * j + 0 ≤ 7302249; omega⟩ dL_law_377 rfl rfl ?_
  refine g_aload_n 381 C dL_law_380 rfl rfl rfl ?_
  refine g_aload_n 382 C dL_law_381 rfl rfl rfl ?_
  refine g_iload_n 383 C dL_law_382 rfl rfl rfl ?_
  refine g_iconst 384 C 1 dL_law_383 rfl (by decide) ?_
  refine g_iadd 385 C dL_law_384 rfl ?_
  refine g_top (v := nI (i + 1)) (nI_1 i).symm ?_
  refine g_sld 386 C hX K.2.2.1 hbA K.2.2.2 (by omega) dL_law_385 rfl ?_
  refine g_callViP 389 C (As := [.int (xs (i + 1))]) (st := [.int r]) (n0 := 1) (ci := 9) (q0 := 0) (c_X8_buy l (sl_Zok jK jV jT) (ad := ad8) e8) gL_law_X8_buy ⟨rfl, by decide +kernel, by decide +kernel, rfl⟩ rfl ⟨(Nat.le_of_ble_eq_true rfl), (Nat.le_of_ble_eq_true rfl)⟩ rfl rfl (cut_X8 Y ad (sg_mg kb_TNLBH σ σ2) ad8 τ τ2) rfl (Nat.le_of_ble_eq_true rfl) ⟨by show 200 + 60 * j + 0 ≤ 600000; omega, by show 2300 + 10801 * j + 0 ≤ 7302249; omega⟩ dL_law_386 rfl rfl ?_
  refine g_icmp_eq 392 1101 C dL_law_389 (by decide) rfl (T := some ()) (E := none) (v := ()) (if_pos rfl) (fun _ => ?_) (fun h => by cases h)
  refine g_widen (200 + 60 * (j + 1)) (2300 + 10801 * (j + 1)) (by omega) (by omega) ?_
  exact kk d0 ad (sg_mg kb_TNLBH σ σ2) τ2 hd0 hG2
set_option maxHeartbeats 8000000 in
set_option maxRecDepth 100000 in
theorem sl_case6 (K : sl_Cx p s m meth c D Y jK jV jT b L xs) (hd0 : s.drawn.sameBut d0 lw_cs) (hj : j < 512) (hi : i + 4 ≤ L) (hG : gx_G mm σ τ) (hm : mm < 8800) (kk : ∀ (d1 : Drawn) (ad2 : Nat → Nat) (σ2 τ2 : sg_S), s.drawn.sameBut d1 lw_cs → gx_G (mm + 12) σ2 τ2 → sl_G p l e s m below meth c D Y b d1 (j + 1) i 1101 ad2 σ2 ad8 τ2) : sl_G p l e s m below meth c D Y b d0 j i 394 ad σ ad8 τ := by
  have C := K.1 d0 hd0
  have hX : va_X b L xs (s.setDrawn d0) (s.setDrawn d0).heap := K.2.1
  have hbA : ¬ sl_A s b := Nat.not_le.mpr K.2.2.1
  obtain ⟨r, σ2, τ2, e7, e8, hG2⟩ := gk_month hG hm 
  refine g_aload_n 395 C dL_law_394 rfl rfl rfl ?_
  refine g_callViP 398 C (As := []) (st := []) (n0 := 0) (ci := 8) (q0 := 13) (c_X7_month l (sl_Zok jK jV jT) (ad := ad) e7) gL_law_X7_month ⟨rfl, by decide +kernel, by decide +kernel, rfl⟩ rfl ⟨(Nat.le_of_ble_eq_true rfl), (Nat.le_of_ble_eq_true rfl)⟩ rfl rfl (cut_TNLBH Y ad σ σ2 ad8 τ) rfl (Nat.le_of_ble_eq_true rfl) ⟨by show 200 + 60 * j + 0 ≤ 600000; omega, by show 2300 + 10801 * j + 0 ≤ 7302249; omega⟩ dL_law_395 rfl rfl ?_
  refine g_aload_n 399 C dL_law_398 rfl rfl rfl ?_
  refine g_callViP 402 C (As := []) (st := [.int r]) (n0 := 0) (ci := 9) (q0 := 0) (c_X8_month l (sl_Zok jK jV jT) (ad := ad8) e8) gL_law_X8_month ⟨rfl, by decide +kernel, by decide +kernel, rfl⟩ rfl ⟨(Nat.le_of_ble_eq_true rfl), (Nat.le_of_ble_eq_true rfl)⟩ rfl rfl (cut_X8 Y ad (sg_mg kb_TNLBH σ σ2) ad8 τ τ2) rfl (Nat.le_of_ble_eq_true rfl) ⟨by show 200 + 60 * j + 0 ≤ 600000; omega, by show 2300 + 10801 * j + 0 ≤ 7302249; omega⟩ dL_law_399 rfl rfl ?_
  refine g_icmp_eq 405 1101 C dL_law_402 (by decide) rfl (T := some ()) (E := none) (v := ()) (if_pos rfl) (fun _ => ?_) (fun h => by cases h)
  refine g_widen (200 + 60 * (j + 1)) (2300 + 10801 * (j + 1)) (by omega) (by omega) ?_
  exact kk d0 ad (sg_mg kb_TNLBH σ σ2) τ2 hd0 hG2
set_option maxHeartbeats 8000000 in
set_option maxRecDepth 100000 in
theorem sl_case7 (K : sl_Cx p s m meth c D Y jK jV jT b L xs) (hd0 : s.drawn.sameBut d0 lw_cs) (hj : j < 512) (hi : i + 4 ≤ L) (hG : gx_G mm σ τ) (hm : mm < 8800) (kk : ∀ (d1 : Drawn) (ad2 : Nat → Nat) (σ2 τ2 : sg_S), s.drawn.sameBut d1 lw_cs → gx_G (mm + 12) σ2 τ2 → sl_G p l e s m below meth c D Y b d1 (j + 1) i 1101 ad2 σ2 ad8 τ2) : sl_G p l e s m below meth c D Y b d0 j i 407 ad σ ad8 τ := by
  have C := K.1 d0 hd0
  have hX : va_X b L xs (s.setDrawn d0) (s.setDrawn d0).heap := K.2.1
  have hbA : ¬ sl_A s b := Nat.not_le.mpr K.2.2.1
  obtain ⟨r, τ2, e7, e8, hG2⟩ := gj_townOf hG (xs (i + 1)) (xs (i + 2))
  refine g_aload_n 408 C dL_law_407 rfl rfl rfl ?_
  refine g_aload_n 409 C dL_law_408 rfl rfl rfl ?_
  refine g_iload_n 410 C dL_law_409 rfl rfl rfl ?_
  refine g_iconst 411 C 1 dL_law_410 rfl (by decide) ?_
  refine g_iadd 412 C dL_law_411 rfl ?_
  refine g_top (v := nI (i + 1)) (nI_1 i).symm ?_
  refine g_sld 413 C hX K.2.2.1 hbA K.2.2.2 (by omega) dL_law_412 rfl ?_
  refine g_aload_n 414 C dL_law_413 rfl rfl rfl ?_
  refine g_iload_n 415 C dL_law_414 rfl rfl rfl ?_
  refine g_iconst 416 C 2 dL_law_415 rfl (by decide) ?_
  refine g_iadd 417 C dL_law_416 rfl ?_
  refine g_top (v := nI (i + 2)) (sl_2 i).symm ?_
  refine g_sld 418 C hX K.2.2.1 hbA K.2.2.2 (by omega) dL_law_417 rfl ?_
  refine g_callViP 421 C (As := [.int (xs (i + 1)), .int (xs (i + 2))]) (st := []) (n0 := 2) (ci := 8) (q0 := 13) (c_X7_townOf l (sl_Zok jK jV jT) (ad := ad) e7) gL_law_X7_townOf ⟨rfl, by decide +kernel, by decide +kernel, rfl⟩ rfl ⟨(Nat.le_of_ble_eq_true rfl), (Nat.le_of_ble_eq_true rfl)⟩ rfl rfl (cut_rTN Y ad σ ad8 τ) rfl (Nat.le_of_ble_eq_true rfl) ⟨by show 200 + 60 * j + 0 ≤ 600000; omega, by show 2300 + 10801 * j + 0 ≤ 7302249; omega⟩ dL_law_418 rfl rfl ?_
  refine g_aload_n 422 C dL_law_421 rfl rfl rfl ?_
  refine g_aload_n 423 C dL_law_422 rfl rfl rfl ?_
  refine g_iload_n 424 C dL_law_423 rfl rfl rfl ?_
  refine g_iconst 425 C 1 dL_law_424 rfl (by decide) ?_
  refine g_iadd 426 C dL_law_425 rfl ?_
  refine g_top (v := nI (i + 1)) (nI_1 i).symm ?_
  refine g_sld 427 C hX K.2.2.1 hbA K.2.2.2 (by omega) dL_law_426 rfl ?_
  refine g_aload_n 428 C dL_law_427 rfl rfl rfl ?_
  refine g_iload_n 429 C dL_law_428 rfl rfl rfl ?_
  refine g_iconst 430 C 2 dL_law_429 rfl (by decide) ?_
  refine g_iadd 431 C dL_law_430 rfl ?_
  refine g_top (v := nI (i + 2)) (sl_2 i).symm ?_
  refine g_sld 432 C hX K.2.2.1 hbA K.2.2.2 (by omega) dL_law_431 rfl ?_
  refine g_callViP 435 C (As := [.int (xs (i + 1)), .int (xs (i + 2))]) (st := [.int r]) (n0 := 2) (ci := 9) (q0 := 0) (c_X8_townOf l (sl_Zok jK jV jT) (ad := ad8) e8) gL_law_X8_townOf ⟨rfl, by decide +kernel, by decide +kernel, rfl⟩ rfl ⟨(Nat.le_of_ble_eq_true rfl), (Nat.le_of_ble_eq_true rfl)⟩ rfl rfl (cut_X8 Y ad (σ) ad8 τ τ2) rfl (Nat.le_of_ble_eq_true rfl) ⟨by show 200 + 60 * j + 0 ≤ 600000; omega, by show 2300 + 10801 * j + 0 ≤ 7302249; omega⟩ dL_law_432 rfl rfl ?_
  refine g_icmp_eq 438 1101 C dL_law_435 (by decide) rfl (T := some ()) (E := none) (v := ()) (if_pos rfl) (fun _ => ?_) (fun h => by cases h)
  refine g_widen (200 + 60 * (j + 1)) (2300 + 10801 * (j + 1)) (by omega) (by omega) ?_
  exact kk d0 ad (σ) τ2 hd0 hG2
set_option maxHeartbeats 8000000 in
set_option maxRecDepth 100000 in
theorem sl_case8 (K : sl_Cx p s m meth c D Y jK jV jT b L xs) (hd0 : s.drawn.sameBut d0 lw_cs) (hj : j < 512) (hi : i + 4 ≤ L) (hG : gx_G mm σ τ) (hm : mm < 8800) (kk : ∀ (d1 : Drawn) (ad2 : Nat → Nat) (σ2 τ2 : sg_S), s.drawn.sameBut d1 lw_cs → gx_G (mm + 12) σ2 τ2 → sl_G p l e s m below meth c D Y b d1 (j + 1) i 1101 ad2 σ2 ad8 τ2) : sl_G p l e s m below meth c D Y b d0 j i 440 ad σ ad8 τ := by
  have C := K.1 d0 hd0
  have hX : va_X b L xs (s.setDrawn d0) (s.setDrawn d0).heap := K.2.1
  have hbA : ¬ sl_A s b := Nat.not_le.mpr K.2.2.1
  obtain ⟨r, e7, e8, hG2⟩ := gj_creditOf hG (xs (i + 1)) (xs (i + 2))
  refine g_aload_n 441 C dL_law_440 rfl rfl rfl ?_
  refine g_aload_n 442 C dL_law_441 rfl rfl rfl ?_
  refine g_iload_n 443 C dL_law_442 rfl rfl rfl ?_
  refine g_iconst 444 C 1 dL_law_443 rfl (by decide) ?_
  refine g_iadd 445 C dL_law_444 rfl ?_
  refine g_top (v := nI (i + 1)) (nI_1 i).symm ?_
  refine g_sld 446 C hX K.2.2.1 hbA K.2.2.2 (by omega) dL_law_445 rfl ?_
  refine g_aload_n 447 C dL_law_446 rfl rfl rfl ?_
  refine g_iload_n 448 C dL_law_447 rfl rfl rfl ?_
  refine g_iconst 449 C 2 dL_law_448 rfl (by decide) ?_
  refine g_iadd 450 C dL_law_449 rfl ?_
  refine g_top (v := nI (i + 2)) (sl_2 i).symm ?_
  refine g_sld 451 C hX K.2.2.1 hbA K.2.2.2 (by omega) dL_law_450 rfl ?_
  refine g_callViP 454 C (As := [.int (xs (i + 1)), .int (xs (i + 2))]) (st := []) (n0 := 2) (ci := 8) (q0 := 13) (c_X7_creditOf l (sl_Zok jK jV jT) (ad := ad) e7) gL_law_X7_creditOf ⟨rfl, by decide +kernel, by decide +kernel, rfl⟩ rfl ⟨(Nat.le_of_ble_eq_true rfl), (Nat.le_of_ble_eq_true rfl)⟩ rfl rfl (cut_rTN Y ad σ ad8 τ) rfl (Nat.le_of_ble_eq_true rfl) ⟨by show 200 + 60 * j + 0 ≤ 600000; omega, by show 2300 + 10801 * j + 0 ≤ 7302249; omega⟩ dL_law_451 rfl rfl ?_
  refine g_aload_n 455 C dL_law_454 rfl rfl rfl ?_
  refine g_aload_n 456 C dL_law_455 rfl rfl rfl ?_
  refine g_iload_n 457 C dL_law_456 rfl rfl rfl ?_
  refine g_iconst 458 C 1 dL_law_457 rfl (by decide) ?_
  refine g_iadd 459 C dL_law_458 rfl ?_
  refine g_top (v := nI (i + 1)) (nI_1 i).symm ?_
  refine g_sld 460 C hX K.2.2.1 hbA K.2.2.2 (by omega) dL_law_459 rfl ?_
  refine g_aload_n 461 C dL_law_460 rfl rfl rfl ?_
  refine g_iload_n 462 C dL_law_461 rfl rfl rfl ?_
  refine g_iconst 463 C 2 dL_law_462 rfl (by decide) ?_
  refine g_iadd 464 C dL_law_463 rfl ?_
  refine g_top (v := nI (i + 2)) (sl_2 i).symm ?_
  refine g_sld 465 C hX K.2.2.1 hbA K.2.2.2 (by omega) dL_law_464 rfl ?_
  refine g_callViP 468 C (As := [.int (xs (i + 1)), .int (xs (i + 2))]) (st := [.int r]) (n0 := 2) (ci := 9) (q0 := 0) (c_X8_creditOf l (sl_Zok jK jV jT) (ad := ad8) e8) gL_law_X8_creditOf ⟨rfl, by decide +kernel, by decide +kernel, rfl⟩ rfl ⟨(Nat.le_of_ble_eq_true rfl), (Nat.le_of_ble_eq_true rfl)⟩ rfl rfl (cut_X8 Y ad (σ) ad8 τ τ) rfl (Nat.le_of_ble_eq_true rfl) ⟨by show 200 + 60 * j + 0 ≤ 600000; omega, by show 2300 + 10801 * j + 0 ≤ 7302249; omega⟩ dL_law_465 rfl rfl ?_
  refine g_icmp_eq 471 1101 C dL_law_468 (by decide) rfl (T := some ()) (E := none) (v := ()) (if_pos rfl) (fun _ => ?_) (fun h => by cases h)
  refine g_widen (200 + 60 * (j + 1)) (2300 + 10801 * (j + 1)) (by omega) (by omega) ?_
  exact kk d0 ad (σ) τ hd0 hG2
set_option maxHeartbeats 8000000 in
set_option maxRecDepth 100000 in
theorem sl_case9 (K : sl_Cx p s m meth c D Y jK jV jT b L xs) (hd0 : s.drawn.sameBut d0 lw_cs) (hj : j < 512) (hi : i + 4 ≤ L) (hG : gx_G mm σ τ) (hm : mm < 8800) (kk : ∀ (d1 : Drawn) (ad2 : Nat → Nat) (σ2 τ2 : sg_S), s.drawn.sameBut d1 lw_cs → gx_G (mm + 12) σ2 τ2 → sl_G p l e s m below meth c D Y b d1 (j + 1) i 1101 ad2 σ2 ad8 τ2) : sl_G p l e s m below meth c D Y b d0 j i 473 ad σ ad8 τ := by
  have C := K.1 d0 hd0
  have hX : va_X b L xs (s.setDrawn d0) (s.setDrawn d0).heap := K.2.1
  have hbA : ¬ sl_A s b := Nat.not_le.mpr K.2.2.1
  obtain ⟨r, e7, e8, hG2⟩ := gj_owes hG (xs (i + 1))
  refine g_aload_n 474 C dL_law_473 rfl rfl rfl ?_
  refine g_aload_n 475 C dL_law_474 rfl rfl rfl ?_
  refine g_iload_n 476 C dL_law_475 rfl rfl rfl ?_
  refine g_iconst 477 C 1 dL_law_476 rfl (by decide) ?_
  refine g_iadd 478 C dL_law_477 rfl ?_
  refine g_top (v := nI (i + 1)) (nI_1 i).symm ?_
  refine g_sld 479 C hX K.2.2.1 hbA K.2.2.2 (by omega) dL_law_478 rfl ?_
  refine g_callViP 482 C (As := [.int (xs (i + 1))]) (st := []) (n0 := 1) (ci := 8) (q0 := 13) (c_X7_owes l (sl_Zok jK jV jT) (ad := ad) e7) gL_law_X7_owes ⟨rfl, by decide +kernel, by decide +kernel, rfl⟩ rfl ⟨(Nat.le_of_ble_eq_true rfl), (Nat.le_of_ble_eq_true rfl)⟩ rfl rfl (cut_rTN Y ad σ ad8 τ) rfl (Nat.le_of_ble_eq_true rfl) ⟨by show 200 + 60 * j + 0 ≤ 600000; omega, by show 2300 + 10801 * j + 0 ≤ 7302249; omega⟩ dL_law_479 rfl rfl ?_
  refine g_aload_n 483 C dL_law_482 rfl rfl rfl ?_
  refine g_aload_n 484 C dL_law_483 rfl rfl rfl ?_
  refine g_iload_n 485 C dL_law_484 rfl rfl rfl ?_
  refine g_iconst 486 C 1 dL_law_485 rfl (by decide) ?_
  refine g_iadd 487 C dL_law_486 rfl ?_
  refine g_top (v := nI (i + 1)) (nI_1 i).symm ?_
  refine g_sld 488 C hX K.2.2.1 hbA K.2.2.2 (by omega) dL_law_487 rfl ?_
  refine g_callViP 491 C (As := [.int (xs (i + 1))]) (st := [.int r]) (n0 := 1) (ci := 9) (q0 := 0) (c_X8_owes l (sl_Zok jK jV jT) (ad := ad8) e8) gL_law_X8_owes ⟨rfl, by decide +kernel, by decide +kernel, rfl⟩ rfl ⟨(Nat.le_of_ble_eq_true rfl), (Nat.le_of_ble_eq_true rfl)⟩ rfl rfl (cut_X8 Y ad (σ) ad8 τ τ) rfl (Nat.le_of_ble_eq_true rfl) ⟨by show 200 + 60 * j + 0 ≤ 600000; omega, by show 2300 + 10801 * j + 0 ≤ 7302249; omega⟩ dL_law_488 rfl rfl ?_
  refine g_icmp_eq 494 1101 C dL_law_491 (by decide) rfl (T := some ()) (E := none) (v := ()) (if_pos rfl) (fun _ => ?_) (fun h => by cases h)
  refine g_widen (200 + 60 * (j + 1)) (2300 + 10801 * (j + 1)) (by omega) (by omega) ?_
  exact kk d0 ad (σ) τ hd0 hG2
set_option maxHeartbeats 8000000 in
set_option maxRecDepth 100000 in
theorem sl_case10 (K : sl_Cx p s m meth c D Y jK jV jT b L xs) (hd0 : s.drawn.sameBut d0 lw_cs) (hj : j < 512) (hi : i + 4 ≤ L) (hG : gx_G mm σ τ) (hm : mm < 8800) (kk : ∀ (d1 : Drawn) (ad2 : Nat → Nat) (σ2 τ2 : sg_S), s.drawn.sameBut d1 lw_cs → gx_G (mm + 12) σ2 τ2 → sl_G p l e s m below meth c D Y b d1 (j + 1) i 1101 ad2 σ2 ad8 τ2) : sl_G p l e s m below meth c D Y b d0 j i 496 ad σ ad8 τ := by
  have C := K.1 d0 hd0
  have hX : va_X b L xs (s.setDrawn d0) (s.setDrawn d0).heap := K.2.1
  have hbA : ¬ sl_A s b := Nat.not_le.mpr K.2.2.1
  obtain ⟨r, e7, e8, hG2⟩ := gj_owesAgain hG (xs (i + 1))
  refine g_aload_n 497 C dL_law_496 rfl rfl rfl ?_
  refine g_aload_n 498 C dL_law_497 rfl rfl rfl ?_
  refine g_iload_n 499 C dL_law_498 rfl rfl rfl ?_
  refine g_iconst 500 C 1 dL_law_499 rfl (by decide) ?_
  refine g_iadd 501 C dL_law_500 rfl ?_
  refine g_top (v := nI (i + 1)) (nI_1 i).symm ?_
  refine g_sld 502 C hX K.2.2.1 hbA K.2.2.2 (by omega) dL_law_501 rfl ?_
  refine g_callViP 505 C (As := [.int (xs (i + 1))]) (st := []) (n0 := 1) (ci := 8) (q0 := 13) (c_X7_owesAgain l (sl_Zok jK jV jT) (ad := ad) e7) gL_law_X7_owesAgain ⟨rfl, by decide +kernel, by decide +kernel, rfl⟩ rfl ⟨(Nat.le_of_ble_eq_true rfl), (Nat.le_of_ble_eq_true rfl)⟩ rfl rfl (cut_rTN Y ad σ ad8 τ) rfl (Nat.le_of_ble_eq_true rfl) ⟨by show 200 + 60 * j + 0 ≤ 600000; omega, by show 2300 + 10801 * j + 0 ≤ 7302249; omega⟩ dL_law_502 rfl rfl ?_
  refine g_aload_n 506 C dL_law_505 rfl rfl rfl ?_
  refine g_aload_n 507 C dL_law_506 rfl rfl rfl ?_
  refine g_iload_n 508 C dL_law_507 rfl rfl rfl ?_
  refine g_iconst 509 C 1 dL_law_508 rfl (by decide) ?_
  refine g_iadd 510 C dL_law_509 rfl ?_
  refine g_top (v := nI (i + 1)) (nI_1 i).symm ?_
  refine g_sld 511 C hX K.2.2.1 hbA K.2.2.2 (by omega) dL_law_510 rfl ?_
  refine g_callViP 514 C (As := [.int (xs (i + 1))]) (st := [.int r]) (n0 := 1) (ci := 9) (q0 := 0) (c_X8_owesAgain l (sl_Zok jK jV jT) (ad := ad8) e8) gL_law_X8_owesAgain ⟨rfl, by decide +kernel, by decide +kernel, rfl⟩ rfl ⟨(Nat.le_of_ble_eq_true rfl), (Nat.le_of_ble_eq_true rfl)⟩ rfl rfl (cut_X8 Y ad (σ) ad8 τ τ) rfl (Nat.le_of_ble_eq_true rfl) ⟨by show 200 + 60 * j + 0 ≤ 600000; omega, by show 2300 + 10801 * j + 0 ≤ 7302249; omega⟩ dL_law_511 rfl rfl ?_
  refine g_icmp_eq 517 1101 C dL_law_514 (by decide) rfl (T := some ()) (E := none) (v := ()) (if_pos rfl) (fun _ => ?_) (fun h => by cases h)
  refine g_widen (200 + 60 * (j + 1)) (2300 + 10801 * (j + 1)) (by omega) (by omega) ?_
  exact kk d0 ad (σ) τ hd0 hG2
set_option maxHeartbeats 8000000 in
set_option maxRecDepth 100000 in
theorem sl_case11 (K : sl_Cx p s m meth c D Y jK jV jT b L xs) (hd0 : s.drawn.sameBut d0 lw_cs) (hj : j < 512) (hi : i + 4 ≤ L) (hG : gx_G mm σ τ) (hm : mm < 8800) (kk : ∀ (d1 : Drawn) (ad2 : Nat → Nat) (σ2 τ2 : sg_S), s.drawn.sameBut d1 lw_cs → gx_G (mm + 12) σ2 τ2 → sl_G p l e s m below meth c D Y b d1 (j + 1) i 1101 ad2 σ2 ad8 τ2) : sl_G p l e s m below meth c D Y b d0 j i 519 ad σ ad8 τ := by
  have C := K.1 d0 hd0
  have hX : va_X b L xs (s.setDrawn d0) (s.setDrawn d0).heap := K.2.1
  have hbA : ¬ sl_A s b := Nat.not_le.mpr K.2.2.1
  obtain ⟨r, e7, e8, hG2⟩ := gj_due hG (xs (i + 1))
  refine g_aload_n 520 C dL_law_519 rfl rfl rfl ?_
  refine g_aload_n 521 C dL_law_520 rfl rfl rfl ?_
  refine g_iload_n 522 C dL_law_521 rfl rfl rfl ?_
  refine g_iconst 523 C 1 dL_law_522 rfl (by decide) ?_
  refine g_iadd 524 C dL_law_523 rfl ?_
  refine g_top (v := nI (i + 1)) (nI_1 i).symm ?_
  refine g_sld 525 C hX K.2.2.1 hbA K.2.2.2 (by omega) dL_law_524 rfl ?_
  refine g_callViP 528 C (As := [.int (xs (i + 1))]) (st := []) (n0 := 1) (ci := 8) (q0 := 13) (c_X7_due l (sl_Zok jK jV jT) (ad := ad) e7) gL_law_X7_due ⟨rfl, by decide +kernel, by decide +kernel, rfl⟩ rfl ⟨(Nat.le_of_ble_eq_true rfl), (Nat.le_of_ble_eq_true rfl)⟩ rfl rfl (cut_rTN Y ad σ ad8 τ) rfl (Nat.le_of_ble_eq_true rfl) ⟨by show 200 + 60 * j + 0 ≤ 600000; omega, by show 2300 + 10801 * j + 0 ≤ 7302249; omega⟩ dL_law_525 rfl rfl ?_
  refine g_aload_n 529 C dL_law_528 rfl rfl rfl ?_
  refine g_aload_n 530 C dL_law_529 rfl rfl rfl ?_
  refine g_iload_n 531 C dL_law_530 rfl rfl rfl ?_
  refine g_iconst 532 C 1 dL_law_531 rfl (by decide) ?_
  refine g_iadd 533 C dL_law_532 rfl ?_
  refine g_top (v := nI (i + 1)) (nI_1 i).symm ?_
  refine g_sld 534 C hX K.2.2.1 hbA K.2.2.2 (by omega) dL_law_533 rfl ?_
  refine g_callViP 537 C (As := [.int (xs (i + 1))]) (st := [.int r]) (n0 := 1) (ci := 9) (q0 := 0) (c_X8_due l (sl_Zok jK jV jT) (ad := ad8) e8) gL_law_X8_due ⟨rfl, by decide +kernel, by decide +kernel, rfl⟩ rfl ⟨(Nat.le_of_ble_eq_true rfl), (Nat.le_of_ble_eq_true rfl)⟩ rfl rfl (cut_X8 Y ad (σ) ad8 τ τ) rfl (Nat.le_of_ble_eq_true rfl) ⟨by show 200 + 60 * j + 0 ≤ 600000; omega, by show 2300 + 10801 * j + 0 ≤ 7302249; omega⟩ dL_law_534 rfl rfl ?_
  refine g_icmp_eq 540 1101 C dL_law_537 (by decide) rfl (T := some ()) (E := none) (v := ()) (if_pos rfl) (fun _ => ?_) (fun h => by cases h)
  refine g_widen (200 + 60 * (j + 1)) (2300 + 10801 * (j + 1)) (by omega) (by omega) ?_
  exact kk d0 ad (σ) τ hd0 hG2
set_option maxHeartbeats 8000000 in
set_option maxRecDepth 100000 in
theorem sl_case12 (K : sl_Cx p s m meth c D Y jK jV jT b L xs) (hd0 : s.drawn.sameBut d0 lw_cs) (hj : j < 512) (hi : i + 4 ≤ L) (hG : gx_G mm σ τ) (hm : mm < 8800) (kk : ∀ (d1 : Drawn) (ad2 : Nat → Nat) (σ2 τ2 : sg_S), s.drawn.sameBut d1 lw_cs → gx_G (mm + 12) σ2 τ2 → sl_G p l e s m below meth c D Y b d1 (j + 1) i 1101 ad2 σ2 ad8 τ2) : sl_G p l e s m below meth c D Y b d0 j i 542 ad σ ad8 τ := by
  have C := K.1 d0 hd0
  have hX : va_X b L xs (s.setDrawn d0) (s.setDrawn d0).heap := K.2.1
  have hbA : ¬ sl_A s b := Nat.not_le.mpr K.2.2.1
  obtain ⟨r, τ2, e7, e8, hG2⟩ := gj_far hG (xs (i + 1)) (xs (i + 2))
  refine g_aload_n 543 C dL_law_542 rfl rfl rfl ?_
  refine g_aload_n 544 C dL_law_543 rfl rfl rfl ?_
  refine g_iload_n 545 C dL_law_544 rfl rfl rfl ?_
  refine g_iconst 546 C 1 dL_law_545 rfl (by decide) ?_
  refine g_iadd 547 C dL_law_546 rfl ?_
  refine g_top (v := nI (i + 1)) (nI_1 i).symm ?_
  refine g_sld 548 C hX K.2.2.1 hbA K.2.2.2 (by omega) dL_law_547 rfl ?_
  refine g_aload_n 549 C dL_law_548 rfl rfl rfl ?_
  refine g_iload_n 550 C dL_law_549 rfl rfl rfl ?_
  refine g_iconst 551 C 2 dL_law_550 rfl (by decide) ?_
  refine g_iadd 552 C dL_law_551 rfl ?_
  refine g_top (v := nI (i + 2)) (sl_2 i).symm ?_
  refine g_sld 553 C hX K.2.2.1 hbA K.2.2.2 (by omega) dL_law_552 rfl ?_
  refine g_callViP 556 C (As := [.int (xs (i + 1)), .int (xs (i + 2))]) (st := []) (n0 := 2) (ci := 8) (q0 := 13) (c_X7_far l (sl_Zok jK jV jT) (ad := ad) e7) gL_law_X7_far ⟨rfl, by decide +kernel, by decide +kernel, rfl⟩ rfl ⟨(Nat.le_of_ble_eq_true rfl), (Nat.le_of_ble_eq_true rfl)⟩ rfl rfl (cut_rTN Y ad σ ad8 τ) rfl (Nat.le_of_ble_eq_true rfl) ⟨by show 200 + 60 * j + 0 ≤ 600000; omega, by show 2300 + 10801 * j + 0 ≤ 7302249; omega⟩ dL_law_553 rfl rfl ?_
  refine g_aload_n 557 C dL_law_556 rfl rfl rfl ?_
  refine g_aload_n 558 C dL_law_557 rfl rfl rfl ?_
  refine g_iload_n 559 C dL_law_558 rfl rfl rfl ?_
  refine g_iconst 560 C 1 dL_law_559 rfl (by decide) ?_
  refine g_iadd 561 C dL_law_560 rfl ?_
  refine g_top (v := nI (i + 1)) (nI_1 i).symm ?_
  refine g_sld 562 C hX K.2.2.1 hbA K.2.2.2 (by omega) dL_law_561 rfl ?_
  refine g_aload_n 563 C dL_law_562 rfl rfl rfl ?_
  refine g_iload_n 564 C dL_law_563 rfl rfl rfl ?_
  refine g_iconst 565 C 2 dL_law_564 rfl (by decide) ?_
  refine g_iadd 566 C dL_law_565 rfl ?_
  refine g_top (v := nI (i + 2)) (sl_2 i).symm ?_
  refine g_sld 567 C hX K.2.2.1 hbA K.2.2.2 (by omega) dL_law_566 rfl ?_
  refine g_callViP 570 C (As := [.int (xs (i + 1)), .int (xs (i + 2))]) (st := [.int r]) (n0 := 2) (ci := 9) (q0 := 0) (c_X8_far l (sl_Zok jK jV jT) (ad := ad8) e8) gL_law_X8_far ⟨rfl, by decide +kernel, by decide +kernel, rfl⟩ rfl ⟨(Nat.le_of_ble_eq_true rfl), (Nat.le_of_ble_eq_true rfl)⟩ rfl rfl (cut_X8 Y ad (σ) ad8 τ τ2) rfl (Nat.le_of_ble_eq_true rfl) ⟨by show 200 + 60 * j + 0 ≤ 600000; omega, by show 2300 + 10801 * j + 0 ≤ 7302249; omega⟩ dL_law_567 rfl rfl ?_
  refine g_icmp_eq 573 1101 C dL_law_570 (by decide) rfl (T := some ()) (E := none) (v := ()) (if_pos rfl) (fun _ => ?_) (fun h => by cases h)
  refine g_widen (200 + 60 * (j + 1)) (2300 + 10801 * (j + 1)) (by omega) (by omega) ?_
  exact kk d0 ad (σ) τ2 hd0 hG2
set_option maxHeartbeats 8000000 in
set_option maxRecDepth 100000 in
theorem sl_case13 (K : sl_Cx p s m meth c D Y jK jV jT b L xs) (hd0 : s.drawn.sameBut d0 lw_cs) (hj : j < 512) (hi : i + 4 ≤ L) (hG : gx_G mm σ τ) (hm : mm < 8800) (kk : ∀ (d1 : Drawn) (ad2 : Nat → Nat) (σ2 τ2 : sg_S), s.drawn.sameBut d1 lw_cs → gx_G (mm + 12) σ2 τ2 → sl_G p l e s m below meth c D Y b d1 (j + 1) i 1101 ad2 σ2 ad8 τ2) : sl_G p l e s m below meth c D Y b d0 j i 575 ad σ ad8 τ := by
  have C := K.1 d0 hd0
  have hX : va_X b L xs (s.setDrawn d0) (s.setDrawn d0).heap := K.2.1
  have hbA : ¬ sl_A s b := Nat.not_le.mpr K.2.2.1
  obtain ⟨r, σ2, τ2, e7, e8, hG2⟩ := gk_drizzle hG (xs (i + 1)) (xs (i + 2)) (xs (i + 3))
  refine g_aload_n 576 C dL_law_575 rfl rfl rfl ?_
  refine g_aload_n 577 C dL_law_576 rfl rfl rfl ?_
  refine g_iload_n 578 C dL_law_577 rfl rfl rfl ?_
  refine g_iconst 579 C 1 dL_law_578 rfl (by decide) ?_
  refine g_iadd 580 C dL_law_579 rfl ?_
  refine g_top (v := nI (i + 1)) (nI_1 i).symm ?_
  refine g_sld 581 C hX K.2.2.1 hbA K.2.2.2 (by omega) dL_law_580 rfl ?_
  refine g_aload_n 582 C dL_law_581 rfl rfl rfl ?_
  refine g_iload_n 583 C dL_law_582 rfl rfl rfl ?_
  refine g_iconst 584 C 2 dL_law_583 rfl (by decide) ?_
  refine g_iadd 585 C dL_law_584 rfl ?_
  refine g_top (v := nI (i + 2)) (sl_2 i).symm ?_
  refine g_sld 586 C hX K.2.2.1 hbA K.2.2.2 (by omega) dL_law_585 rfl ?_
  refine g_aload_n 587 C dL_law_586 rfl rfl rfl ?_
  refine g_iload_n 588 C dL_law_587 rfl rfl rfl ?_
  refine g_iconst 589 C 3 dL_law_588 rfl (by decide) ?_
  refine g_iadd 590 C dL_law_589 rfl ?_
  refine g_top (v := nI (i + 3)) (sl_3 i).symm ?_
  refine g_sld 591 C hX K.2.2.1 hbA K.2.2.2 (by omega) dL_law_590 rfl ?_
  refine g_callViP 594 C (As := [.int (xs (i + 1)), .int (xs (i + 2)), .int (xs (i + 3))]) (st := []) (n0 := 3) (ci := 8) (q0 := 13) (c_X7_drizzle l (sl_Zok jK jV jT) (ad := ad) e7) gL_law_X7_drizzle ⟨rfl, by decide +kernel, by decide +kernel, rfl⟩ rfl ⟨(Nat.le_of_ble_eq_true rfl), (Nat.le_of_ble_eq_true rfl)⟩ rfl rfl (cut_TN Y ad σ σ2 ad8 τ) rfl (Nat.le_of_ble_eq_true rfl) ⟨by show 200 + 60 * j + 0 ≤ 600000; omega, by show 2300 + 10801 * j + 0 ≤ 7302249; omega⟩ dL_law_591 rfl rfl ?_
  refine g_aload_n 595 C dL_law_594 rfl rfl rfl ?_
  refine g_aload_n 596 C dL_law_595 rfl rfl rfl ?_
  refine g_iload_n 597 C dL_law_596 rfl rfl rfl ?_
  refine g_iconst 598 C 1 dL_law_597 rfl (by decide) ?_
  refine g_iadd 599 C dL_law_598 rfl ?_
  refine g_top (v := nI (i + 1)) (nI_1 i).symm ?_
  refine g_sld 600 C hX K.2.2.1 hbA K.2.2.2 (by omega) dL_law_599 rfl ?_
  refine g_aload_n 601 C dL_law_600 rfl rfl rfl ?_
  refine g_iload_n 602 C dL_law_601 rfl rfl rfl ?_
  refine g_iconst 603 C 2 dL_law_602 rfl (by decide) ?_
  refine g_iadd 604 C dL_law_603 rfl ?_
  refine g_top (v := nI (i + 2)) (sl_2 i).symm ?_
  refine g_sld 605 C hX K.2.2.1 hbA K.2.2.2 (by omega) dL_law_604 rfl ?_
  refine g_aload_n 606 C dL_law_605 rfl rfl rfl ?_
  refine g_iload_n 607 C dL_law_606 rfl rfl rfl ?_
  refine g_iconst 608 C 3 dL_law_607 rfl (by decide) ?_
  refine g_iadd 609 C dL_law_608 rfl ?_
  refine g_top (v := nI (i + 3)) (sl_3 i).symm ?_
  refine g_sld 610 C hX K.2.2.1 hbA K.2.2.2 (by omega) dL_law_609 rfl ?_
  refine g_callViP 613 C (As := [.int (xs (i + 1)), .int (xs (i + 2)), .int (xs (i + 3))]) (st := [.int r]) (n0 := 3) (ci := 9) (q0 := 0) (c_X8_drizzle l (sl_Zok jK jV jT) (ad := ad8) e8) gL_law_X8_drizzle ⟨rfl, by decide +kernel, by decide +kernel, rfl⟩ rfl ⟨(Nat.le_of_ble_eq_true rfl), (Nat.le_of_ble_eq_true rfl)⟩ rfl rfl (cut_X8 Y ad (sg_mg kb_TN σ σ2) ad8 τ τ2) rfl (Nat.le_of_ble_eq_true rfl) ⟨by show 200 + 60 * j + 0 ≤ 600000; omega, by show 2300 + 10801 * j + 0 ≤ 7302249; omega⟩ dL_law_610 rfl rfl ?_
  refine g_icmp_eq 616 1101 C dL_law_613 (by decide) rfl (T := some ()) (E := none) (v := ()) (if_pos rfl) (fun _ => ?_) (fun h => by cases h)
  refine g_widen (200 + 60 * (j + 1)) (2300 + 10801 * (j + 1)) (by omega) (by omega) ?_
  exact kk d0 ad (sg_mg kb_TN σ σ2) τ2 hd0 hG2
set_option maxHeartbeats 8000000 in
set_option maxRecDepth 100000 in
theorem sl_case14 (K : sl_Cx p s m meth c D Y jK jV jT b L xs) (hd0 : s.drawn.sameBut d0 lw_cs) (hj : j < 512) (hi : i + 4 ≤ L) (hG : gx_G mm σ τ) (hm : mm < 8800) (kk : ∀ (d1 : Drawn) (ad2 : Nat → Nat) (σ2 τ2 : sg_S), s.drawn.sameBut d1 lw_cs → gx_G (mm + 12) σ2 τ2 → sl_G p l e s m below meth c D Y b d1 (j + 1) i 1101 ad2 σ2 ad8 τ2) : sl_G p l e s m below meth c D Y b d0 j i 618 ad σ ad8 τ := by
  have C := K.1 d0 hd0
  have hX : va_X b L xs (s.setDrawn d0) (s.setDrawn d0).heap := K.2.1
  have hbA : ¬ sl_A s b := Nat.not_le.mpr K.2.2.1
  obtain ⟨r, τ2, e7, e8, hG2⟩ := gj_drizzleAgain hG (xs (i + 1)) (xs (i + 2)) (xs (i + 3))
  refine g_aload_n 619 C dL_law_618 rfl rfl rfl ?_
  refine g_aload_n 620 C dL_law_619 rfl rfl rfl ?_
  refine g_iload_n 621 C dL_law_620 rfl rfl rfl ?_
  refine g_iconst 622 C 1 dL_law_621 rfl (by decide) ?_
  refine g_iadd 623 C dL_law_622 rfl ?_
  refine g_top (v := nI (i + 1)) (nI_1 i).symm ?_
  refine g_sld 624 C hX K.2.2.1 hbA K.2.2.2 (by omega) dL_law_623 rfl ?_
  refine g_aload_n 625 C dL_law_624 rfl rfl rfl ?_
  refine g_iload_n 626 C dL_law_625 rfl rfl rfl ?_
  refine g_iconst 627 C 2 dL_law_626 rfl (by decide) ?_
  refine g_iadd 628 C dL_law_627 rfl ?_
  refine g_top (v := nI (i + 2)) (sl_2 i).symm ?_
  refine g_sld 629 C hX K.2.2.1 hbA K.2.2.2 (by omega) dL_law_628 rfl ?_
  refine g_aload_n 630 C dL_law_629 rfl rfl rfl ?_
  refine g_iload_n 631 C dL_law_630 rfl rfl rfl ?_
  refine g_iconst 632 C 3 dL_law_631 rfl (by decide) ?_
  refine g_iadd 633 C dL_law_632 rfl ?_
  refine g_top (v := nI (i + 3)) (sl_3 i).symm ?_
  refine g_sld 634 C hX K.2.2.1 hbA K.2.2.2 (by omega) dL_law_633 rfl ?_
  refine g_callViP 637 C (As := [.int (xs (i + 1)), .int (xs (i + 2)), .int (xs (i + 3))]) (st := []) (n0 := 3) (ci := 8) (q0 := 13) (c_X7_drizzleAgain l (sl_Zok jK jV jT) (ad := ad) e7) gL_law_X7_drizzleAgain ⟨rfl, by decide +kernel, by decide +kernel, rfl⟩ rfl ⟨(Nat.le_of_ble_eq_true rfl), (Nat.le_of_ble_eq_true rfl)⟩ rfl rfl (cut_rTN Y ad σ ad8 τ) rfl (Nat.le_of_ble_eq_true rfl) ⟨by show 200 + 60 * j + 0 ≤ 600000; omega, by show 2300 + 10801 * j + 0 ≤ 7302249; omega⟩ dL_law_634 rfl rfl ?_
  refine g_aload_n 638 C dL_law_637 rfl rfl rfl ?_
  refine g_aload_n 639 C dL_law_638 rfl rfl rfl ?_
  refine g_iload_n 640 C dL_law_639 rfl rfl rfl ?_
  refine g_iconst 641 C 1 dL_law_640 rfl (by decide) ?_
  refine g_iadd 642 C dL_law_641 rfl ?_
  refine g_top (v := nI (i + 1)) (nI_1 i).symm ?_
  refine g_sld 643 C hX K.2.2.1 hbA K.2.2.2 (by omega) dL_law_642 rfl ?_
  refine g_aload_n 644 C dL_law_643 rfl rfl rfl ?_
  refine g_iload_n 645 C dL_law_644 rfl rfl rfl ?_
  refine g_iconst 646 C 2 dL_law_645 rfl (by decide) ?_
  refine g_iadd 647 C dL_law_646 rfl ?_
  refine g_top (v := nI (i + 2)) (sl_2 i).symm ?_
  refine g_sld 648 C hX K.2.2.1 hbA K.2.2.2 (by omega) dL_law_647 rfl ?_
  refine g_aload_n 649 C dL_law_648 rfl rfl rfl ?_
  refine g_iload_n 650 C dL_law_649 rfl rfl rfl ?_
  refine g_iconst 651 C 3 dL_law_650 rfl (by decide) ?_
  refine g_iadd 652 C dL_law_651 rfl ?_
  refine g_top (v := nI (i + 3)) (sl_3 i).symm ?_
  refine g_sld 653 C hX K.2.2.1 hbA K.2.2.2 (by omega) dL_law_652 rfl ?_
  refine g_callViP 656 C (As := [.int (xs (i + 1)), .int (xs (i + 2)), .int (xs (i + 3))]) (st := [.int r]) (n0 := 3) (ci := 9) (q0 := 0) (c_X8_drizzleAgain l (sl_Zok jK jV jT) (ad := ad8) e8) gL_law_X8_drizzleAgain ⟨rfl, by decide +kernel, by decide +kernel, rfl⟩ rfl ⟨(Nat.le_of_ble_eq_true rfl), (Nat.le_of_ble_eq_true rfl)⟩ rfl rfl (cut_X8 Y ad (σ) ad8 τ τ2) rfl (Nat.le_of_ble_eq_true rfl) ⟨by show 200 + 60 * j + 0 ≤ 600000; omega, by show 2300 + 10801 * j + 0 ≤ 7302249; omega⟩ dL_law_653 rfl rfl ?_
  refine g_icmp_eq 659 1101 C dL_law_656 (by decide) rfl (T := some ()) (E := none) (v := ()) (if_pos rfl) (fun _ => ?_) (fun h => by cases h)
  refine g_widen (200 + 60 * (j + 1)) (2300 + 10801 * (j + 1)) (by omega) (by omega) ?_
  exact kk d0 ad (σ) τ2 hd0 hG2
set_option maxHeartbeats 8000000 in
set_option maxRecDepth 100000 in
theorem sl_case15 (K : sl_Cx p s m meth c D Y jK jV jT b L xs) (hd0 : s.drawn.sameBut d0 lw_cs) (hj : j < 512) (hi : i + 4 ≤ L) (hG : gx_G mm σ τ) (hm : mm < 8800) (kk : ∀ (d1 : Drawn) (ad2 : Nat → Nat) (σ2 τ2 : sg_S), s.drawn.sameBut d1 lw_cs → gx_G (mm + 12) σ2 τ2 → sl_G p l e s m below meth c D Y b d1 (j + 1) i 1101 ad2 σ2 ad8 τ2) : sl_G p l e s m below meth c D Y b d0 j i 661 ad σ ad8 τ := by
  have C := K.1 d0 hd0
  have hX : va_X b L xs (s.setDrawn d0) (s.setDrawn d0).heap := K.2.1
  have hbA : ¬ sl_A s b := Nat.not_le.mpr K.2.2.1
  obtain ⟨r, σ2, τ2, e7, e8, hG2⟩ := gk_would hG hm (xs (i + 1)) (xs (i + 2)) (xs (i + 3))
  refine g_aload_n 662 C dL_law_661 rfl rfl rfl ?_
  refine g_aload_n 663 C dL_law_662 rfl rfl rfl ?_
  refine g_iload_n 664 C dL_law_663 rfl rfl rfl ?_
  refine g_iconst 665 C 1 dL_law_664 rfl (by decide) ?_
  refine g_iadd 666 C dL_law_665 rfl ?_
  refine g_top (v := nI (i + 1)) (nI_1 i).symm ?_
  refine g_sld 667 C hX K.2.2.1 hbA K.2.2.2 (by omega) dL_law_666 rfl ?_
  refine g_aload_n 668 C dL_law_667 rfl rfl rfl ?_
  refine g_iload_n 669 C dL_law_668 rfl rfl rfl ?_
  refine g_iconst 670 C 2 dL_law_669 rfl (by decide) ?_
  refine g_iadd 671 C dL_law_670 rfl ?_
  refine g_top (v := nI (i + 2)) (sl_2 i).symm ?_
  refine g_sld 672 C hX K.2.2.1 hbA K.2.2.2 (by omega) dL_law_671 rfl ?_
  refine g_aload_n 673 C dL_law_672 rfl rfl rfl ?_
  refine g_iload_n 674 C dL_law_673 rfl rfl rfl ?_
  refine g_iconst 675 C 3 dL_law_674 rfl (by decide) ?_
  refine g_iadd 676 C dL_law_675 rfl ?_
  refine g_top (v := nI (i + 3)) (sl_3 i).symm ?_
  refine g_sld 677 C hX K.2.2.1 hbA K.2.2.2 (by omega) dL_law_676 rfl ?_
  refine g_callViP 680 C (As := [.int (xs (i + 1)), .int (xs (i + 2)), .int (xs (i + 3))]) (st := []) (n0 := 3) (ci := 8) (q0 := 13) (c_X7_would l (sl_Zok jK jV jT) (ad := ad) e7) gL_law_X7_would ⟨rfl, by decide +kernel, by decide +kernel, rfl⟩ rfl ⟨(Nat.le_of_ble_eq_true rfl), (Nat.le_of_ble_eq_true rfl)⟩ rfl rfl (cut_TNR Y ad σ σ2 ad8 τ) rfl (Nat.le_of_ble_eq_true rfl) ⟨by show 200 + 60 * j + 0 ≤ 600000; omega, by show 2300 + 10801 * j + 0 ≤ 7302249; omega⟩ dL_law_677 rfl rfl ?_
  refine g_aload_n 681 C dL_law_680 rfl rfl rfl ?_
  refine g_aload_n 682 C dL_law_681 rfl rfl rfl ?_
  refine g_iload_n 683 C dL_law_682 rfl rfl rfl ?_
  refine g_iconst 684 C 1 dL_law_683 rfl (by decide) ?_
  refine g_iadd 685 C dL_law_684 rfl ?_
  refine g_top (v := nI (i + 1)) (nI_1 i).symm ?_
  refine g_sld 686 C hX K.2.2.1 hbA K.2.2.2 (by omega) dL_law_685 rfl ?_
  refine g_aload_n 687 C dL_law_686 rfl rfl rfl ?_
  refine g_iload_n 688 C dL_law_687 rfl rfl rfl ?_
  refine g_iconst 689 C 2 dL_law_688 rfl (by decide) ?_
  refine g_iadd 690 C dL_law_689 rfl ?_
  refine g_top (v := nI (i + 2)) (sl_2 i).symm ?_
  refine g_sld 691 C hX K.2.2.1 hbA K.2.2.2 (by omega) dL_law_690 rfl ?_
  refine g_aload_n 692 C dL_law_691 rfl rfl rfl ?_
  refine g_iload_n 693 C dL_law_692 rfl rfl rfl ?_
  refine g_iconst 694 C 3 dL_law_693 rfl (by decide) ?_
  refine g_iadd 695 C dL_law_694 rfl ?_
  refine g_top (v := nI (i + 3)) (sl_3 i).symm ?_
  refine g_sld 696 C hX K.2.2.1 hbA K.2.2.2 (by omega) dL_law_695 rfl ?_
  refine g_callViP 699 C (As := [.int (xs (i + 1)), .int (xs (i + 2)), .int (xs (i + 3))]) (st := [.int r]) (n0 := 3) (ci := 9) (q0 := 0) (c_X8_would l (sl_Zok jK jV jT) (ad := ad8) e8) gL_law_X8_would ⟨rfl, by decide +kernel, by decide +kernel, rfl⟩ rfl ⟨(Nat.le_of_ble_eq_true rfl), (Nat.le_of_ble_eq_true rfl)⟩ rfl rfl (cut_X8 Y ad (sg_mg kb_TNR σ σ2) ad8 τ τ2) rfl (Nat.le_of_ble_eq_true rfl) ⟨by show 200 + 60 * j + 0 ≤ 600000; omega, by show 2300 + 10801 * j + 0 ≤ 7302249; omega⟩ dL_law_696 rfl rfl ?_
  refine g_icmp_eq 702 1101 C dL_law_699 (by decide) rfl (T := some ()) (E := none) (v := ()) (if_pos rfl) (fun _ => ?_) (fun h => by cases h)
  refine g_widen (200 + 60 * (j + 1)) (2300 + 10801 * (j + 1)) (by omega) (by omega) ?_
  exact kk d0 ad (sg_mg kb_TNR σ σ2) τ2 hd0 hG2
set_option maxHeartbeats 8000000 in
set_option maxRecDepth 100000 in
theorem sl_case16 (K : sl_Cx p s m meth c D Y jK jV jT b L xs) (hd0 : s.drawn.sameBut d0 lw_cs) (hj : j < 512) (hi : i + 4 ≤ L) (hG : gx_G mm σ τ) (hm : mm < 8800) (kk : ∀ (d1 : Drawn) (ad2 : Nat → Nat) (σ2 τ2 : sg_S), s.drawn.sameBut d1 lw_cs → gx_G (mm + 12) σ2 τ2 → sl_G p l e s m below meth c D Y b d1 (j + 1) i 1101 ad2 σ2 ad8 τ2) : sl_G p l e s m below meth c D Y b d0 j i 704 ad σ ad8 τ := by
  have C := K.1 d0 hd0
  have hX : va_X b L xs (s.setDrawn d0) (s.setDrawn d0).heap := K.2.1
  have hbA : ¬ sl_A s b := Nat.not_le.mpr K.2.2.1
  obtain ⟨r, σ2, τ2, e7, e8, hG2⟩ := gk_most hG hm (xs (i + 1)) (xs (i + 2))
  refine g_aload_n 705 C dL_law_704 rfl rfl rfl ?_
  refine g_aload_n 706 C dL_law_705 rfl rfl rfl ?_
  refine g_iload_n 707 C dL_law_706 rfl rfl rfl ?_
  refine g_iconst 708 C 1 dL_law_707 rfl (by decide) ?_
  refine g_iadd 709 C dL_law_708 rfl ?_
  refine g_top (v := nI (i + 1)) (nI_1 i).symm ?_
  refine g_sld 710 C hX K.2.2.1 hbA K.2.2.2 (by omega) dL_law_709 rfl ?_
  refine g_aload_n 711 C dL_law_710 rfl rfl rfl ?_
  refine g_iload_n 712 C dL_law_711 rfl rfl rfl ?_
  refine g_iconst 713 C 2 dL_law_712 rfl (by decide) ?_
  refine g_iadd 714 C dL_law_713 rfl ?_
  refine g_top (v := nI (i + 2)) (sl_2 i).symm ?_
  refine g_sld 715 C hX K.2.2.1 hbA K.2.2.2 (by omega) dL_law_714 rfl ?_
  refine g_callViP 718 C (As := [.int (xs (i + 1)), .int (xs (i + 2))]) (st := []) (n0 := 2) (ci := 8) (q0 := 13) (c_X7_most l (sl_Zok jK jV jT) (ad := ad) e7) gL_law_X7_most ⟨rfl, by decide +kernel, by decide +kernel, rfl⟩ rfl ⟨(Nat.le_of_ble_eq_true rfl), (Nat.le_of_ble_eq_true rfl)⟩ rfl rfl (cut_TNR Y ad σ σ2 ad8 τ) rfl (Nat.le_of_ble_eq_true rfl) ⟨by show 200 + 60 * j + 0 ≤ 600000; omega, by show 2300 + 10801 * j + 0 ≤ 7302249; omega⟩ dL_law_715 rfl rfl ?_
  refine g_aload_n 719 C dL_law_718 rfl rfl rfl ?_
  refine g_aload_n 720 C dL_law_719 rfl rfl rfl ?_
  refine g_iload_n 721 C dL_law_720 rfl rfl rfl ?_
  refine g_iconst 722 C 1 dL_law_721 rfl (by decide) ?_
  refine g_iadd 723 C dL_law_722 rfl ?_
  refine g_top (v := nI (i + 1)) (nI_1 i).symm ?_
  refine g_sld 724 C hX K.2.2.1 hbA K.2.2.2 (by omega) dL_law_723 rfl ?_
  refine g_aload_n 725 C dL_law_724 rfl rfl rfl ?_
  refine g_iload_n 726 C dL_law_725 rfl rfl rfl ?_
  refine g_iconst 727 C 2 dL_law_726 rfl (by decide) ?_
  refine g_iadd 728 C dL_law_727 rfl ?_
  refine g_top (v := nI (i + 2)) (sl_2 i).symm ?_
  refine g_sld 729 C hX K.2.2.1 hbA K.2.2.2 (by omega) dL_law_728 rfl ?_
  refine g_callViP 732 C (As := [.int (xs (i + 1)), .int (xs (i + 2))]) (st := [.int r]) (n0 := 2) (ci := 9) (q0 := 0) (c_X8_most l (sl_Zok jK jV jT) (ad := ad8) e8) gL_law_X8_most ⟨rfl, by decide +kernel, by decide +kernel, rfl⟩ rfl ⟨(Nat.le_of_ble_eq_true rfl), (Nat.le_of_ble_eq_true rfl)⟩ rfl rfl (cut_X8 Y ad (sg_mg kb_TNR σ σ2) ad8 τ τ2) rfl (Nat.le_of_ble_eq_true rfl) ⟨by show 200 + 60 * j + 0 ≤ 600000; omega, by show 2300 + 10801 * j + 0 ≤ 7302249; omega⟩ dL_law_729 rfl rfl ?_
  refine g_icmp_eq 735 1101 C dL_law_732 (by decide) rfl (T := some ()) (E := none) (v := ()) (if_pos rfl) (fun _ => ?_) (fun h => by cases h)
  refine g_widen (200 + 60 * (j + 1)) (2300 + 10801 * (j + 1)) (by omega) (by omega) ?_
  exact kk d0 ad (sg_mg kb_TNR σ σ2) τ2 hd0 hG2
set_option maxHeartbeats 8000000 in
set_option maxRecDepth 100000 in
theorem sl_case17 (K : sl_Cx p s m meth c D Y jK jV jT b L xs) (hd0 : s.drawn.sameBut d0 lw_cs) (hj : j < 512) (hi : i + 4 ≤ L) (hG : gx_G mm σ τ) (hm : mm < 8800) (kk : ∀ (d1 : Drawn) (ad2 : Nat → Nat) (σ2 τ2 : sg_S), s.drawn.sameBut d1 lw_cs → gx_G (mm + 12) σ2 τ2 → sl_G p l e s m below meth c D Y b d1 (j + 1) i 1101 ad2 σ2 ad8 τ2) : sl_G p l e s m below meth c D Y b d0 j i 737 ad σ ad8 τ := by
  have C := K.1 d0 hd0
  have hX : va_X b L xs (s.setDrawn d0) (s.setDrawn d0).heap := K.2.1
  have hbA : ¬ sl_A s b := Nat.not_le.mpr K.2.2.1
  obtain ⟨r, e7, e8, hG2⟩ := gj_ranked hG (xs (i + 1))
  refine g_aload_n 738 C dL_law_737 rfl rfl rfl ?_
  refine g_aload_n 739 C dL_law_738 rfl rfl rfl ?_
  refine g_iload_n 740 C dL_law_739 rfl rfl rfl ?_
  refine g_iconst 741 C 1 dL_law_740 rfl (by decide) ?_
  refine g_iadd 742 C dL_law_741 rfl ?_
  refine g_top (v := nI (i + 1)) (nI_1 i).symm ?_
  refine g_sld 743 C hX K.2.2.1 hbA K.2.2.2 (by omega) dL_law_742 rfl ?_
  refine g_callViP 746 C (As := [.int (xs (i + 1))]) (st := []) (n0 := 1) (ci := 8) (q0 := 13) (c_X7_ranked l (sl_Zok jK jV jT) (ad := ad) e7) gL_law_X7_ranked ⟨rfl, by decide +kernel, by decide +kernel, rfl⟩ rfl ⟨(Nat.le_of_ble_eq_true rfl), (Nat.le_of_ble_eq_true rfl)⟩ rfl rfl (cut_rTN Y ad σ ad8 τ) rfl (Nat.le_of_ble_eq_true rfl) ⟨by show 200 + 60 * j + 0 ≤ 600000; omega, by show 2300 + 10801 * j + 0 ≤ 7302249; omega⟩ dL_law_743 rfl rfl ?_
  refine g_aload_n 747 C dL_law_746 rfl rfl rfl ?_
  refine g_aload_n 748 C dL_law_747 rfl rfl rfl ?_
  refine g_iload_n 749 C dL_law_748 rfl rfl rfl ?_
  refine g_iconst 750 C 1 dL_law_749 rfl (by decide) ?_
  refine g_iadd 751 C dL_law_750 rfl ?_
  refine g_top (v := nI (i + 1)) (nI_1 i).symm ?_
  refine g_sld 752 C hX K.2.2.1 hbA K.2.2.2 (by omega) dL_law_751 rfl ?_
  refine g_callViP 755 C (As := [.int (xs (i + 1))]) (st := [.int r]) (n0 := 1) (ci := 9) (q0 := 0) (c_X8_ranked l (sl_Zok jK jV jT) (ad := ad8) e8) gL_law_X8_ranked ⟨rfl, by decide +kernel, by decide +kernel, rfl⟩ rfl ⟨(Nat.le_of_ble_eq_true rfl), (Nat.le_of_ble_eq_true rfl)⟩ rfl rfl (cut_X8 Y ad (σ) ad8 τ τ) rfl (Nat.le_of_ble_eq_true rfl) ⟨by show 200 + 60 * j + 0 ≤ 600000; omega, by show 2300 + 10801 * j + 0 ≤ 7302249; omega⟩ dL_law_752 rfl rfl ?_
  refine g_icmp_eq 758 1101 C dL_law_755 (by decide) rfl (T := some ()) (E := none) (v := ()) (if_pos rfl) (fun _ => ?_) (fun h => by cases h)
  refine g_widen (200 + 60 * (j + 1)) (2300 + 10801 * (j + 1)) (by omega) (by omega) ?_
  exact kk d0 ad (σ) τ hd0 hG2
set_option maxHeartbeats 8000000 in
set_option maxRecDepth 100000 in
theorem sl_case18 (K : sl_Cx p s m meth c D Y jK jV jT b L xs) (hd0 : s.drawn.sameBut d0 lw_cs) (hj : j < 512) (hi : i + 4 ≤ L) (hG : gx_G mm σ τ) (hm : mm < 8800) (kk : ∀ (d1 : Drawn) (ad2 : Nat → Nat) (σ2 τ2 : sg_S), s.drawn.sameBut d1 lw_cs → gx_G (mm + 12) σ2 τ2 → sl_G p l e s m below meth c D Y b d1 (j + 1) i 1101 ad2 σ2 ad8 τ2) : sl_G p l e s m below meth c D Y b d0 j i 760 ad σ ad8 τ := by
  have C := K.1 d0 hd0
  have hX : va_X b L xs (s.setDrawn d0) (s.setDrawn d0).heap := K.2.1
  have hbA : ¬ sl_A s b := Nat.not_le.mpr K.2.2.1
  obtain ⟨r, e7, e8, hG2⟩ := gj_next hG (xs (i + 1))
  refine g_aload_n 761 C dL_law_760 rfl rfl rfl ?_
  refine g_aload_n 762 C dL_law_761 rfl rfl rfl ?_
  refine g_iload_n 763 C dL_law_762 rfl rfl rfl ?_
  refine g_iconst 764 C 1 dL_law_763 rfl (by decide) ?_
  refine g_iadd 765 C dL_law_764 rfl ?_
  refine g_top (v := nI (i + 1)) (nI_1 i).symm ?_
  refine g_sld 766 C hX K.2.2.1 hbA K.2.2.2 (by omega) dL_law_765 rfl ?_
  refine g_callViP 769 C (As := [.int (xs (i + 1))]) (st := []) (n0 := 1) (ci := 8) (q0 := 13) (c_X7_next l (sl_Zok jK jV jT) (ad := ad) e7) gL_law_X7_next ⟨rfl, by decide +kernel, by decide +kernel, rfl⟩ rfl ⟨(Nat.le_of_ble_eq_true rfl), (Nat.le_of_ble_eq_true rfl)⟩ rfl rfl (cut_rTN Y ad σ ad8 τ) rfl (Nat.le_of_ble_eq_true rfl) ⟨by show 200 + 60 * j + 0 ≤ 600000; omega, by show 2300 + 10801 * j + 0 ≤ 7302249; omega⟩ dL_law_766 rfl rfl ?_
  refine g_aload_n 770 C dL_law_769 rfl rfl rfl ?_
  refine g_aload_n 771 C dL_law_770 rfl rfl rfl ?_
  refine g_iload_n 772 C dL_law_771 rfl rfl rfl ?_
  refine g_iconst 773 C 1 dL_law_772 rfl (by decide) ?_
  refine g_iadd 774 C dL_law_773 rfl ?_
  refine g_top (v := nI (i + 1)) (nI_1 i).symm ?_
  refine g_sld 775 C hX K.2.2.1 hbA K.2.2.2 (by omega) dL_law_774 rfl ?_
  refine g_callViP 778 C (As := [.int (xs (i + 1))]) (st := [.int r]) (n0 := 1) (ci := 9) (q0 := 0) (c_X8_next l (sl_Zok jK jV jT) (ad := ad8) e8) gL_law_X8_next ⟨rfl, by decide +kernel, by decide +kernel, rfl⟩ rfl ⟨(Nat.le_of_ble_eq_true rfl), (Nat.le_of_ble_eq_true rfl)⟩ rfl rfl (cut_X8 Y ad (σ) ad8 τ τ) rfl (Nat.le_of_ble_eq_true rfl) ⟨by show 200 + 60 * j + 0 ≤ 600000; omega, by show 2300 + 10801 * j + 0 ≤ 7302249; omega⟩ dL_law_775 rfl rfl ?_
  refine g_icmp_eq 781 1101 C dL_law_778 (by decide) rfl (T := some ()) (E := none) (v := ()) (if_pos rfl) (fun _ => ?_) (fun h => by cases h)
  refine g_widen (200 + 60 * (j + 1)) (2300 + 10801 * (j + 1)) (by omega) (by omega) ?_
  exact kk d0 ad (σ) τ hd0 hG2
set_option maxHeartbeats 8000000 in
set_option maxRecDepth 100000 in
theorem sl_case19 (K : sl_Cx p s m meth c D Y jK jV jT b L xs) (hd0 : s.drawn.sameBut d0 lw_cs) (hj : j < 512) (hi : i + 4 ≤ L) (hG : gx_G mm σ τ) (hm : mm < 8800) (kk : ∀ (d1 : Drawn) (ad2 : Nat → Nat) (σ2 τ2 : sg_S), s.drawn.sameBut d1 lw_cs → gx_G (mm + 12) σ2 τ2 → sl_G p l e s m below meth c D Y b d1 (j + 1) i 1101 ad2 σ2 ad8 τ2) : sl_G p l e s m below meth c D Y b d0 j i 783 ad σ ad8 τ := by
  have C := K.1 d0 hd0
  have hX : va_X b L xs (s.setDrawn d0) (s.setDrawn d0).heap := K.2.1
  have hbA : ¬ sl_A s b := Nat.not_le.mpr K.2.2.1
  obtain ⟨r, σ2, e7, e8, hG2⟩ := gk_isCounted hG 
  refine g_aload_n 784 C dL_law_783 rfl rfl rfl ?_
  refine g_callViP 787 C (As := []) (st := []) (n0 := 0) (ci := 8) (q0 := 13) (c_X7_isCounted l (sl_Zok jK jV jT) (ad := ad) e7) gL_law_X7_isCounted ⟨rfl, by decide +kernel, by decide +kernel, rfl⟩ rfl ⟨(Nat.le_of_ble_eq_true rfl), (Nat.le_of_ble_eq_true rfl)⟩ rfl rfl (cut_TN Y ad σ σ2 ad8 τ) rfl (Nat.le_of_ble_eq_true rfl) ⟨by show 200 + 60 * j + 0 ≤ 600000; omega, by show 2300 + 10801 * j + 0 ≤ 7302249; omega⟩ dL_law_784 rfl rfl ?_
  refine g_aload_n 788 C dL_law_787 rfl rfl rfl ?_
  refine g_callViP 791 C (As := []) (st := [.int r]) (n0 := 0) (ci := 9) (q0 := 0) (c_X8_isCounted l (sl_Zok jK jV jT) (ad := ad8) e8) gL_law_X8_isCounted ⟨rfl, by decide +kernel, by decide +kernel, rfl⟩ rfl ⟨(Nat.le_of_ble_eq_true rfl), (Nat.le_of_ble_eq_true rfl)⟩ rfl rfl (cut_X8 Y ad (sg_mg kb_TN σ σ2) ad8 τ τ) rfl (Nat.le_of_ble_eq_true rfl) ⟨by show 200 + 60 * j + 0 ≤ 600000; omega, by show 2300 + 10801 * j + 0 ≤ 7302249; omega⟩ dL_law_788 rfl rfl ?_
  refine g_icmp_eq 794 1101 C dL_law_791 (by decide) rfl (T := some ()) (E := none) (v := ()) (if_pos rfl) (fun _ => ?_) (fun h => by cases h)
  refine g_widen (200 + 60 * (j + 1)) (2300 + 10801 * (j + 1)) (by omega) (by omega) ?_
  exact kk d0 ad (sg_mg kb_TN σ σ2) τ hd0 hG2
set_option maxHeartbeats 8000000 in
set_option maxRecDepth 100000 in
theorem sl_case22 (K : sl_Cx p s m meth c D Y jK jV jT b L xs) (hd0 : s.drawn.sameBut d0 lw_cs) (hj : j < 512) (hi : i + 4 ≤ L) (hG : gx_G mm σ τ) (hm : mm < 8800) (kk : ∀ (d1 : Drawn) (ad2 : Nat → Nat) (σ2 τ2 : sg_S), s.drawn.sameBut d1 lw_cs → gx_G (mm + 12) σ2 τ2 → sl_G p l e s m below meth c D Y b d1 (j + 1) i 1101 ad2 σ2 ad8 τ2) : sl_G p l e s m below meth c D Y b d0 j i 880 ad σ ad8 τ := by
  have C := K.1 d0 hd0
  have hX : va_X b L xs (s.setDrawn d0) (s.setDrawn d0).heap := K.2.1
  have hbA : ¬ sl_A s b := Nat.not_le.mpr K.2.2.1
  obtain ⟨r, e7, e8, hG2⟩ := gj_account hG (xs (i + 1))
  refine g_aload_n 881 C dL_law_880 rfl rfl rfl ?_
  refine g_aload_n 882 C dL_law_881 rfl rfl rfl ?_
  refine g_iload_n 883 C dL_law_882 rfl rfl rfl ?_
  refine g_iconst 884 C 1 dL_law_883 rfl (by decide) ?_
  refine g_iadd 885 C dL_law_884 rfl ?_
  refine g_top (v := nI (i + 1)) (nI_1 i).symm ?_
  refine g_sld 886 C hX K.2.2.1 hbA K.2.2.2 (by omega) dL_law_885 rfl ?_
  refine g_callViP 889 C (As := [.int (xs (i + 1))]) (st := []) (n0 := 1) (ci := 8) (q0 := 13) (c_X7_account l (sl_Zok jK jV jT) (ad := ad) e7) gL_law_X7_account ⟨rfl, by decide +kernel, by decide +kernel, rfl⟩ rfl ⟨(Nat.le_of_ble_eq_true rfl), (Nat.le_of_ble_eq_true rfl)⟩ rfl rfl (cut_rTNhx Y ad σ ad8 τ) rfl (Nat.le_of_ble_eq_true rfl) ⟨by show 200 + 60 * j + 0 ≤ 600000; omega, by show 2300 + 10801 * j + 0 ≤ 7302249; omega⟩ dL_law_886 rfl rfl ?_
  refine g_aload_n 890 C dL_law_889 rfl rfl rfl ?_
  refine g_aload_n 891 C dL_law_890 rfl rfl rfl ?_
  refine g_iload_n 892 C dL_law_891 rfl rfl rfl ?_
  refine g_iconst 893 C 1 dL_law_892 rfl (by decide) ?_
  refine g_iadd 894 C dL_law_893 rfl ?_
  refine g_top (v := nI (i + 1)) (nI_1 i).symm ?_
  refine g_sld 895 C hX K.2.2.1 hbA K.2.2.2 (by omega) dL_law_894 rfl ?_
  refine g_callViP 898 C (As := [.int (xs (i + 1))]) (st := [.int r]) (n0 := 1) (ci := 9) (q0 := 0) (c_X8_account l (sl_Zok jK jV jT) (ad := ad8) e8) gL_law_X8_account ⟨rfl, by decide +kernel, by decide +kernel, rfl⟩ rfl ⟨(Nat.le_of_ble_eq_true rfl), (Nat.le_of_ble_eq_true rfl)⟩ rfl rfl (cut_X8 Y ad (σ) ad8 τ τ) rfl (Nat.le_of_ble_eq_true rfl) ⟨by show 200 + 60 * j + 0 ≤ 600000; omega, by show 2300 + 10801 * j + 0 ≤ 7302249; omega⟩ dL_law_895 rfl rfl ?_
  refine g_icmp_eq 901 1101 C dL_law_898 (by decide) rfl (T := some ()) (E := none) (v := ()) (if_pos rfl) (fun _ => ?_) (fun h => by cases h)
  refine g_widen (200 + 60 * (j + 1)) (2300 + 10801 * (j + 1)) (by omega) (by omega) ?_
  exact kk d0 ad (σ) τ hd0 hG2
set_option maxHeartbeats 8000000 in
set_option maxRecDepth 100000 in
theorem sl_case23 (K : sl_Cx p s m meth c D Y jK jV jT b L xs) (hd0 : s.drawn.sameBut d0 lw_cs) (hj : j < 512) (hi : i + 4 ≤ L) (hG : gx_G mm σ τ) (hm : mm < 8800) (kk : ∀ (d1 : Drawn) (ad2 : Nat → Nat) (σ2 τ2 : sg_S), s.drawn.sameBut d1 lw_cs → gx_G (mm + 12) σ2 τ2 → sl_G p l e s m below meth c D Y b d1 (j + 1) i 1101 ad2 σ2 ad8 τ2) : sl_G p l e s m below meth c D Y b d0 j i 903 ad σ ad8 τ := by
  have C := K.1 d0 hd0
  have hX : va_X b L xs (s.setDrawn d0) (s.setDrawn d0).heap := K.2.1
  have hbA : ¬ sl_A s b := Nat.not_le.mpr K.2.2.1
  obtain ⟨r, σ2, τ2, e7, e8, hG2⟩ := gk_write hG (xs (i + 1))
  refine g_aload_n 904 C dL_law_903 rfl rfl rfl ?_
  refine g_aload_n 905 C dL_law_904 rfl rfl rfl ?_
  refine g_iload_n 906 C dL_law_905 rfl rfl rfl ?_
  refine g_iconst 907 C 1 dL_law_906 rfl (by decide) ?_
  refine g_iadd 908 C dL_law_907 rfl ?_
  refine g_top (v := nI (i + 1)) (nI_1 i).symm ?_
  refine g_sld 909 C hX K.2.2.1 hbA K.2.2.2 (by omega) dL_law_908 rfl ?_
  refine g_XVi 912 C (As := [.int (xs (i + 1))]) (st := []) (n0 := 1) (ci := 8) (q0 := 13) (c_X7_write l (sl_Zok jK jV jT) (sl_ZJ jK jV jT) (ad := ad) e7) gL_law_X7_write ⟨rfl, by decide +kernel, by decide +kernel, rfl⟩ rfl ⟨(Nat.le_of_ble_eq_true rfl), (Nat.le_of_ble_eq_true rfl)⟩ rfl rfl (cut_TNI Y ad σ σ2 ad8 τ) rfl (Nat.le_of_ble_eq_true rfl) ⟨by show 200 + 60 * j + 11 ≤ 600000; omega, by show 2300 + 10801 * j + 2200 ≤ 7302249; omega⟩ dL_law_909 rfl rfl (fun r0 q0 hr0 => ?_)
  refine g_top hr0.symm ?_
  refine g_eqw (sg_eqL (eq_TNI Y ad σ σ2 ad8 τ q0)) ?_
  refine g_perm (bk_TNI Y ad σ σ2 ad8 τ q0) ?_
  refine g_aload_n 913 C dL_law_912 rfl rfl rfl ?_
  refine g_aload_n 914 C dL_law_913 rfl rfl rfl ?_
  refine g_iload_n 915 C dL_law_914 rfl rfl rfl ?_
  refine g_iconst 916 C 1 dL_law_915 rfl (by decide) ?_
  refine g_iadd 917 C dL_law_916 rfl ?_
  refine g_top (v := nI (i + 1)) (nI_1 i).symm ?_
  refine g_sld 918 C hX K.2.2.1 hbA K.2.2.2 (by omega) dL_law_917 rfl ?_
  refine g_callViP 921 C (As := [.int (xs (i + 1))]) (st := [.int r]) (n0 := 1) (ci := 9) (q0 := 0) (c_X8_write l (sl_Zok jK jV jT) (ad := ad8) e8) gL_law_X8_write ⟨rfl, by decide +kernel, by decide +kernel, rfl⟩ rfl ⟨(Nat.le_of_ble_eq_true rfl), (Nat.le_of_ble_eq_true rfl)⟩ rfl rfl (cut_X8 Y (sg_ua ad 178 q0) (sg_mg kb_TNI σ σ2) ad8 τ τ2) rfl (Nat.le_of_ble_eq_true rfl) ⟨by show 200 + 60 * j + 11 ≤ 600000; omega, by show 2300 + 10801 * j + 2200 ≤ 7302249; omega⟩ dL_law_918 rfl rfl ?_
  refine g_icmp_eq 924 1101 C dL_law_921 (by decide) rfl (T := some ()) (E := none) (v := ()) (if_pos rfl) (fun _ => ?_) (fun h => by cases h)
  refine g_widen (200 + 60 * (j + 1)) (2300 + 10801 * (j + 1)) (by omega) (by omega) ?_
  exact kk d0 (sg_ua ad 178 q0) (sg_mg kb_TNI σ σ2) τ2 hd0 hG2
set_option maxHeartbeats 8000000 in
set_option maxRecDepth 100000 in
theorem sl_case24 (K : sl_Cx p s m meth c D Y jK jV jT b L xs) (hd0 : s.drawn.sameBut d0 lw_cs) (hj : j < 512) (hi : i + 4 ≤ L) (hG : gx_G mm σ τ) (hm : mm < 8800) (kk : ∀ (d1 : Drawn) (ad2 : Nat → Nat) (σ2 τ2 : sg_S), s.drawn.sameBut d1 lw_cs → gx_G (mm + 12) σ2 τ2 → sl_G p l e s m below meth c D Y b d1 (j + 1) i 1101 ad2 σ2 ad8 τ2) : sl_G p l e s m below meth c D Y b d0 j i 926 ad σ ad8 τ := by
  have C := K.1 d0 hd0
  have hX : va_X b L xs (s.setDrawn d0) (s.setDrawn d0).heap := K.2.1
  have hbA : ¬ sl_A s b := Nat.not_le.mpr K.2.2.1
  obtain ⟨r, σ2, τ2, e7, e8, hG2⟩ := gk_writeCredits hG hm 
  refine g_aload_n 927 C dL_law_926 rfl rfl rfl ?_
  refine g_XVi 930 C (As := []) (st := []) (n0 := 0) (ci := 8) (q0 := 13) (c_X7_writeCredits l (sl_Zok jK jV jT) (sl_ZJ jK jV jT) (ad := ad) e7) gL_law_X7_writeCredits ⟨rfl, by decide +kernel, by decide +kernel, rfl⟩ rfl ⟨(Nat.le_of_ble_eq_true rfl), (Nat.le_of_ble_eq_true rfl)⟩ rfl rfl (cut_TNI Y ad σ σ2 ad8 τ) rfl (Nat.le_of_ble_eq_true rfl) ⟨by show 200 + 60 * j + 54 ≤ 600000; omega, by show 2300 + 10801 * j + 10800 ≤ 7302249; omega⟩ dL_law_927 rfl rfl (fun r0 q0 hr0 => ?_)
  refine g_top hr0.symm ?_
  refine g_eqw (sg_eqL (eq_TNI Y ad σ σ2 ad8 τ q0)) ?_
  refine g_perm (bk_TNI Y ad σ σ2 ad8 τ q0) ?_
  refine g_aload_n 931 C dL_law_930 rfl rfl rfl ?_
  refine g_callViP 934 C (As := []) (st := [.int r]) (n0 := 0) (ci := 9) (q0 := 0) (c_X8_writeCredits l (sl_Zok jK jV jT) (ad := ad8) e8) gL_law_X8_writeCredits ⟨rfl, by decide +kernel, by decide +kernel, rfl⟩ rfl ⟨(Nat.le_of_ble_eq_true rfl), (Nat.le_of_ble_eq_true rfl)⟩ rfl rfl (cut_X8 Y (sg_ua ad 178 q0) (sg_mg kb_TNI σ σ2) ad8 τ τ2) rfl (Nat.le_of_ble_eq_true rfl) ⟨by show 200 + 60 * j + 54 ≤ 600000; omega, by show 2300 + 10801 * j + 10800 ≤ 7302249; omega⟩ dL_law_931 rfl rfl ?_
  refine g_icmp_eq 937 1101 C dL_law_934 (by decide) rfl (T := some ()) (E := none) (v := ()) (if_pos rfl) (fun _ => ?_) (fun h => by cases h)
  refine g_widen (200 + 60 * (j + 1)) (2300 + 10801 * (j + 1)) (by omega) (by omega) ?_
  exact kk d0 (sg_ua ad 178 q0) (sg_mg kb_TNI σ σ2) τ2 hd0 hG2
set_option maxHeartbeats 8000000 in
set_option maxRecDepth 100000 in
theorem sl_case25 (K : sl_Cx p s m meth c D Y jK jV jT b L xs) (hd0 : s.drawn.sameBut d0 lw_cs) (hj : j < 512) (hi : i + 4 ≤ L) (hG : gx_G mm σ τ) (hm : mm < 8800) (kk : ∀ (d1 : Drawn) (ad2 : Nat → Nat) (σ2 τ2 : sg_S), s.drawn.sameBut d1 lw_cs → gx_G (mm + 12) σ2 τ2 → sl_G p l e s m below meth c D Y b d1 (j + 1) i 1101 ad2 σ2 ad8 τ2) : sl_G p l e s m below meth c D Y b d0 j i 939 ad σ ad8 τ := by
  have C := K.1 d0 hd0
  have hX : va_X b L xs (s.setDrawn d0) (s.setDrawn d0).heap := K.2.1
  have hbA : ¬ sl_A s b := Nat.not_le.mpr K.2.2.1
  obtain ⟨r, e7, e8, hG2⟩ := gj_written hG (xs (i + 1))
  refine g_aload_n 940 C dL_law_939 rfl rfl rfl ?_
  refine g_aload_n 941 C dL_law_940 rfl rfl rfl ?_
  refine g_iload_n 942 C dL_law_941 rfl rfl rfl ?_
  refine g_iconst 943 C 1 dL_law_942 rfl (by decide) ?_
  refine g_iadd 944 C dL_law_943 rfl ?_
  refine g_top (v := nI (i + 1)) (nI_1 i).symm ?_
  refine g_sld 945 C hX K.2.2.1 hbA K.2.2.2 (by omega) dL_law_944 rfl ?_
  refine g_callViP 948 C (As := [.int (xs (i + 1))]) (st := []) (n0 := 1) (ci := 8) (q0 := 13) (c_X7_written l (sl_Zok jK jV jT) (sl_ZJ jK jV jT) (ad := ad) e7) gL_law_X7_written ⟨rfl, by decide +kernel, by decide +kernel, rfl⟩ rfl ⟨(Nat.le_of_ble_eq_true rfl), (Nat.le_of_ble_eq_true rfl)⟩ rfl rfl (cut_rTI Y ad σ ad8 τ) rfl (Nat.le_of_ble_eq_true rfl) ⟨by show 200 + 60 * j + 0 ≤ 600000; omega, by show 2300 + 10801 * j + 0 ≤ 7302249; omega⟩ dL_law_945 rfl rfl ?_
  refine g_aload_n 949 C dL_law_948 rfl rfl rfl ?_
  refine g_aload_n 950 C dL_law_949 rfl rfl rfl ?_
  refine g_iload_n 951 C dL_law_950 rfl rfl rfl ?_
  refine g_iconst 952 C 1 dL_law_951 rfl (by decide) ?_
  refine g_iadd 953 C dL_law_952 rfl ?_
  refine g_top (v := nI (i + 1)) (nI_1 i).symm ?_
  refine g_sld 954 C hX K.2.2.1 hbA K.2.2.2 (by omega) dL_law_953 rfl ?_
  refine g_callViP 957 C (As := [.int (xs (i + 1))]) (st := [.int r]) (n0 := 1) (ci := 9) (q0 := 0) (c_X8_written l (sl_Zok jK jV jT) (ad := ad8) e8) gL_law_X8_written ⟨rfl, by decide +kernel, by decide +kernel, rfl⟩ rfl ⟨(Nat.le_of_ble_eq_true rfl), (Nat.le_of_ble_eq_true rfl)⟩ rfl rfl (cut_X8 Y ad (σ) ad8 τ τ) rfl (Nat.le_of_ble_eq_true rfl) ⟨by show 200 + 60 * j + 0 ≤ 600000; omega, by show 2300 + 10801 * j + 0 ≤ 7302249; omega⟩ dL_law_954 rfl rfl ?_
  refine g_icmp_eq 960 1101 C dL_law_957 (by decide) rfl (T := some ()) (E := none) (v := ()) (if_pos rfl) (fun _ => ?_) (fun h => by cases h)
  refine g_widen (200 + 60 * (j + 1)) (2300 + 10801 * (j + 1)) (by omega) (by omega) ?_
  exact kk d0 ad (σ) τ hd0 hG2
set_option maxHeartbeats 8000000 in
set_option maxRecDepth 100000 in
theorem sl_case26 (K : sl_Cx p s m meth c D Y jK jV jT b L xs) (hd0 : s.drawn.sameBut d0 lw_cs) (hj : j < 512) (hi : i + 4 ≤ L) (hG : gx_G mm σ τ) (hm : mm < 8800) (kk : ∀ (d1 : Drawn) (ad2 : Nat → Nat) (σ2 τ2 : sg_S), s.drawn.sameBut d1 lw_cs → gx_G (mm + 12) σ2 τ2 → sl_G p l e s m below meth c D Y b d1 (j + 1) i 1101 ad2 σ2 ad8 τ2) : sl_G p l e s m below meth c D Y b d0 j i 962 ad σ ad8 τ := by
  have C := K.1 d0 hd0
  have hX : va_X b L xs (s.setDrawn d0) (s.setDrawn d0).heap := K.2.1
  have hbA : ¬ sl_A s b := Nat.not_le.mpr K.2.2.1
  obtain ⟨r, σ2, τ2, e7, e8, hG2⟩ := gk_append hG (((xs (i + 1)).toUInt32 % 65536).toInt32)
  refine g_aload_n 963 C dL_law_962 rfl rfl rfl ?_
  refine g_aload_n 964 C dL_law_963 rfl rfl rfl ?_
  refine g_iload_n 965 C dL_law_964 rfl rfl rfl ?_
  refine g_iconst 966 C 1 dL_law_965 rfl (by decide) ?_
  refine g_iadd 967 C dL_law_966 rfl ?_
  refine g_top (v := nI (i + 1)) (nI_1 i).symm ?_
  refine g_sld 968 C hX K.2.2.1 hbA K.2.2.2 (by omega) dL_law_967 rfl ?_
  refine g_i2c 969 C dL_law_968 rfl ?_
  refine g_XVi 972 C (As := [.int (((xs (i + 1))).toUInt32 % 65536).toInt32]) (st := []) (n0 := 1) (ci := 8) (q0 := 13) (c_X7_append l (sl_Zok jK jV jT) (sl_ZJ jK jV jT) (ad := ad) e7) gL_law_X7_append ⟨rfl, by decide +kernel, by decide +kernel, rfl⟩ rfl ⟨(Nat.le_of_ble_eq_true rfl), (Nat.le_of_ble_eq_true rfl)⟩ rfl rfl (cut_Tx Y ad σ σ2 ad8 τ) rfl (Nat.le_of_ble_eq_true rfl) ⟨by show 200 + 60 * j + 1 ≤ 600000; omega, by show 2300 + 10801 * j + 200 ≤ 7302249; omega⟩ dL_law_969 rfl rfl (fun r0 q0 hr0 => ?_)
  refine g_top hr0.symm ?_
  refine g_eqw (sg_eqL (eq_Tx Y ad σ σ2 ad8 τ q0)) ?_
  refine g_perm (bk_Tx Y ad σ σ2 ad8 τ q0) ?_
  refine g_aload_n 973 C dL_law_972 rfl rfl rfl ?_
  refine g_aload_n 974 C dL_law_973 rfl rfl rfl ?_
  refine g_iload_n 975 C dL_law_974 rfl rfl rfl ?_
  refine g_iconst 976 C 1 dL_law_975 rfl (by decide) ?_
  refine g_iadd 977 C dL_law_976 rfl ?_
  refine g_top (v := nI (i + 1)) (nI_1 i).symm ?_
  refine g_sld 978 C hX K.2.2.1 hbA K.2.2.2 (by omega) dL_law_977 rfl ?_
  refine g_i2c 979 C dL_law_978 rfl ?_
  refine g_callViP 982 C (As := [.int (((xs (i + 1))).toUInt32 % 65536).toInt32]) (st := [.int r]) (n0 := 1) (ci := 9) (q0 := 0) (c_X8_append l (sl_Zok jK jV jT) (ad := ad8) e8) gL_law_X8_append ⟨rfl, by decide +kernel, by decide +kernel, rfl⟩ rfl ⟨(Nat.le_of_ble_eq_true rfl), (Nat.le_of_ble_eq_true rfl)⟩ rfl rfl (cut_X8 Y (sg_ua ad 162 q0) (sg_mg kb_Tx σ σ2) ad8 τ τ2) rfl (Nat.le_of_ble_eq_true rfl) ⟨by show 200 + 60 * j + 1 ≤ 600000; omega, by show 2300 + 10801 * j + 200 ≤ 7302249; omega⟩ dL_law_979 rfl rfl ?_
  refine g_icmp_eq 985 1101 C dL_law_982 (by decide) rfl (T := some ()) (E := none) (v := ()) (if_pos rfl) (fun _ => ?_) (fun h => by cases h)
  refine g_widen (200 + 60 * (j + 1)) (2300 + 10801 * (j + 1)) (by omega) (by omega) ?_
  exact kk d0 (sg_ua ad 162 q0) (sg_mg kb_Tx σ σ2) τ2 hd0 hG2
set_option maxHeartbeats 8000000 in
set_option maxRecDepth 100000 in
theorem sl_case27 (K : sl_Cx p s m meth c D Y jK jV jT b L xs) (hd0 : s.drawn.sameBut d0 lw_cs) (hj : j < 512) (hi : i + 4 ≤ L) (hG : gx_G mm σ τ) (hm : mm < 8800) (kk : ∀ (d1 : Drawn) (ad2 : Nat → Nat) (σ2 τ2 : sg_S), s.drawn.sameBut d1 lw_cs → gx_G (mm + 12) σ2 τ2 → sl_G p l e s m below meth c D Y b d1 (j + 1) i 1101 ad2 σ2 ad8 τ2) : sl_G p l e s m below meth c D Y b d0 j i 987 ad σ ad8 τ := by
  have C := K.1 d0 hd0
  have hX : va_X b L xs (s.setDrawn d0) (s.setDrawn d0).heap := K.2.1
  have hbA : ¬ sl_A s b := Nat.not_le.mpr K.2.2.1
  obtain ⟨r, σ2, τ2, e7, e8, hG2⟩ := gk_read hG hm 
  refine g_aload_n 988 C dL_law_987 rfl rfl rfl ?_
  refine g_callViP 991 C (As := []) (st := []) (n0 := 0) (ci := 8) (q0 := 13) (c_X7_read l (sl_Zok jK jV jT) (sl_ZJ jK jV jT) (ad := ad) e7) gL_law_X7_read ⟨rfl, by decide +kernel, by decide +kernel, rfl⟩ rfl ⟨(Nat.le_of_ble_eq_true rfl), (Nat.le_of_ble_eq_true rfl)⟩ rfl rfl (cut_TNLBHX Y ad σ σ2 ad8 τ) rfl (Nat.le_of_ble_eq_true rfl) ⟨by show 200 + 60 * j + 0 ≤ 600000; omega, by show 2300 + 10801 * j + 0 ≤ 7302249; omega⟩ dL_law_988 rfl rfl ?_
  refine g_aload_n 992 C dL_law_991 rfl rfl rfl ?_
  refine g_callViP 995 C (As := []) (st := [.int r]) (n0 := 0) (ci := 9) (q0 := 0) (c_X8_read l (sl_Zok jK jV jT) (ad := ad8) e8) gL_law_X8_read ⟨rfl, by decide +kernel, by decide +kernel, rfl⟩ rfl ⟨(Nat.le_of_ble_eq_true rfl), (Nat.le_of_ble_eq_true rfl)⟩ rfl rfl (cut_X8 Y ad (sg_mg kb_TNLBHX σ σ2) ad8 τ τ2) rfl (Nat.le_of_ble_eq_true rfl) ⟨by show 200 + 60 * j + 0 ≤ 600000; omega, by show 2300 + 10801 * j + 0 ≤ 7302249; omega⟩ dL_law_992 rfl rfl ?_
  refine g_icmp_eq 998 1101 C dL_law_995 (by decide) rfl (T := some ()) (E := none) (v := ()) (if_pos rfl) (fun _ => ?_) (fun h => by cases h)
  refine g_widen (200 + 60 * (j + 1)) (2300 + 10801 * (j + 1)) (by omega) (by omega) ?_
  exact kk d0 ad (sg_mg kb_TNLBHX σ σ2) τ2 hd0 hG2
set_option maxHeartbeats 8000000 in
set_option maxRecDepth 100000 in
theorem sl_case28 (K : sl_Cx p s m meth c D Y jK jV jT b L xs) (hd0 : s.drawn.sameBut d0 lw_cs) (hj : j < 512) (hi : i + 4 ≤ L) (hG : gx_G mm σ τ) (hm : mm < 8800) (kk : ∀ (d1 : Drawn) (ad2 : Nat → Nat) (σ2 τ2 : sg_S), s.drawn.sameBut d1 lw_cs → gx_G (mm + 12) σ2 τ2 → sl_G p l e s m below meth c D Y b d1 (j + 1) i 1101 ad2 σ2 ad8 τ2) : sl_G p l e s m below meth c D Y b d0 j i 1000 ad σ ad8 τ := by
  have C := K.1 d0 hd0
  have hX : va_X b L xs (s.setDrawn d0) (s.setDrawn d0).heap := K.2.1
  have hbA : ¬ sl_A s b := Nat.not_le.mpr K.2.2.1
  obtain ⟨r, e7, e8, hG2⟩ := gj_fault hG 
  refine g_aload_n 1001 C dL_law_1000 rfl rfl rfl ?_
  refine g_callViP 1004 C (As := []) (st := []) (n0 := 0) (ci := 8) (q0 := 13) (c_X7_fault l (sl_Zok jK jV jT) (ad := ad) e7) gL_law_X7_fault ⟨rfl, by decide +kernel, by decide +kernel, rfl⟩ rfl ⟨(Nat.le_of_ble_eq_true rfl), (Nat.le_of_ble_eq_true rfl)⟩ rfl rfl (cut_rT Y ad σ ad8 τ) rfl (Nat.le_of_ble_eq_true rfl) ⟨by show 200 + 60 * j + 0 ≤ 600000; omega, by show 2300 + 10801 * j + 0 ≤ 7302249; omega⟩ dL_law_1001 rfl rfl ?_
  refine g_aload_n 1005 C dL_law_1004 rfl rfl rfl ?_
  refine g_callViP 1008 C (As := []) (st := [.int r]) (n0 := 0) (ci := 9) (q0 := 0) (c_X8_fault l (sl_Zok jK jV jT) (ad := ad8) e8) gL_law_X8_fault ⟨rfl, by decide +kernel, by decide +kernel, rfl⟩ rfl ⟨(Nat.le_of_ble_eq_true rfl), (Nat.le_of_ble_eq_true rfl)⟩ rfl rfl (cut_X8 Y ad (σ) ad8 τ τ) rfl (Nat.le_of_ble_eq_true rfl) ⟨by show 200 + 60 * j + 0 ≤ 600000; omega, by show 2300 + 10801 * j + 0 ≤ 7302249; omega⟩ dL_law_1005 rfl rfl ?_
  refine g_icmp_eq 1011 1101 C dL_law_1008 (by decide) rfl (T := some ()) (E := none) (v := ()) (if_pos rfl) (fun _ => ?_) (fun h => by cases h)
  refine g_widen (200 + 60 * (j + 1)) (2300 + 10801 * (j + 1)) (by omega) (by omega) ?_
  exact kk d0 ad (σ) τ hd0 hG2
set_option maxHeartbeats 8000000 in
set_option maxRecDepth 100000 in
theorem sl_case29 (K : sl_Cx p s m meth c D Y jK jV jT b L xs) (hd0 : s.drawn.sameBut d0 lw_cs) (hj : j < 512) (hi : i + 4 ≤ L) (hG : gx_G mm σ τ) (hm : mm < 8800) (kk : ∀ (d1 : Drawn) (ad2 : Nat → Nat) (σ2 τ2 : sg_S), s.drawn.sameBut d1 lw_cs → gx_G (mm + 12) σ2 τ2 → sl_G p l e s m below meth c D Y b d1 (j + 1) i 1101 ad2 σ2 ad8 τ2) : sl_G p l e s m below meth c D Y b d0 j i 1013 ad σ ad8 τ := by
  have C := K.1 d0 hd0
  have hX : va_X b L xs (s.setDrawn d0) (s.setDrawn d0).heap := K.2.1
  have hbA : ¬ sl_A s b := Nat.not_le.mpr K.2.2.1
  by_cases hz : xs (i + 2) = 0
  · obtain ⟨r, e7, e8, hG2⟩ := gj_reason hG (xs (i + 1)) (0)
    refine g_aload_n 1014 C dL_law_1013 rfl rfl rfl ?_
    refine g_aload_n 1015 C dL_law_1014 rfl rfl rfl ?_
    refine g_iload_n 1016 C dL_law_1015 rfl rfl rfl ?_
    refine g_iconst 1017 C 1 dL_law_1016 rfl (by decide) ?_
    refine g_iadd 1018 C dL_law_1017 rfl ?_
    refine g_top (v := nI (i + 1)) (nI_1 i).symm ?_
    refine g_sld 1019 C hX K.2.2.1 hbA K.2.2.2 (by omega) dL_law_1018 rfl ?_
    refine g_aload_n 1020 C dL_law_1019 rfl rfl rfl ?_
    refine g_iload_n 1021 C dL_law_1020 rfl rfl rfl ?_
    refine g_iconst 1022 C 2 dL_law_1021 rfl (by decide) ?_
    refine g_iadd 1023 C dL_law_1022 rfl ?_
    refine g_top (v := nI (i + 2)) (sl_2 i).symm ?_
    refine g_sld 1024 C hX K.2.2.1 hbA K.2.2.2 (by omega) dL_law_1023 rfl ?_
    refine g_if_eq 1027 1031 C dL_law_1024 (by decide) rfl (T := some ()) (E := none) (v := ()) (if_pos hz) (fun _ => ?_) (fun h => by cases h)
    refine g_iconst 1032 C 0 dL_law_1031 rfl (by decide) ?_
    refine g_callViP 1035 C (As := [.int (xs (i + 1)), .int 0]) (st := []) (n0 := 2) (ci := 8) (q0 := 13) (c_X7_reason l (sl_Zok jK jV jT) (ad := ad) e7) gL_law_X7_reason ⟨rfl, by decide +kernel, by decide +kernel, rfl⟩ rfl ⟨(Nat.le_of_ble_eq_true rfl), (Nat.le_of_ble_eq_true rfl)⟩ rfl rfl (cut_rTL Y ad σ ad8 τ) rfl (Nat.le_of_ble_eq_true rfl) ⟨by show 200 + 60 * j + 0 ≤ 600000; omega, by show 2300 + 10801 * j + 0 ≤ 7302249; omega⟩ dL_law_1032 rfl rfl ?_
    refine g_aload_n 1036 C dL_law_1035 rfl rfl rfl ?_
    refine g_aload_n 1037 C dL_law_1036 rfl rfl rfl ?_
    refine g_iload_n 1038 C dL_law_1037 rfl rfl rfl ?_
    refine g_iconst 1039 C 1 dL_law_1038 rfl (by decide) ?_
    refine g_iadd 1040 C dL_law_1039 rfl ?_
    refine g_top (v := nI (i + 1)) (nI_1 i).symm ?_
    refine g_sld 1041 C hX K.2.2.1 hbA K.2.2.2 (by omega) dL_law_1040 rfl ?_
    refine g_aload_n 1042 C dL_law_1041 rfl rfl rfl ?_
    refine g_iload_n 1043 C dL_law_1042 rfl rfl rfl ?_
    refine g_iconst 1044 C 2 dL_law_1043 rfl (by decide) ?_
    refine g_iadd 1045 C dL_law_1044 rfl ?_
    refine g_top (v := nI (i + 2)) (sl_2 i).symm ?_
    refine g_sld 1046 C hX K.2.2.1 hbA K.2.2.2 (by omega) dL_law_1045 rfl ?_
    refine g_if_eq 1049 1053 C dL_law_1046 (by decide) rfl (T := some ()) (E := none) (v := ()) (if_pos hz) (fun _ => ?_) (fun h => by cases h)
    refine g_iconst 1054 C 0 dL_law_1053 rfl (by decide) ?_
    refine g_callViP 1057 C (As := [.int (xs (i + 1)), .int 0]) (st := [.int r]) (n0 := 2) (ci := 9) (q0 := 0) (c_X8_reason l (sl_Zok jK jV jT) (ad := ad8) e8) gL_law_X8_reason ⟨rfl, by decide +kernel, by decide +kernel, rfl⟩ rfl ⟨(Nat.le_of_ble_eq_true rfl), (Nat.le_of_ble_eq_true rfl)⟩ rfl rfl (cut_X8 Y ad (σ) ad8 τ τ) rfl (Nat.le_of_ble_eq_true rfl) ⟨by show 200 + 60 * j + 0 ≤ 600000; omega, by show 2300 + 10801 * j + 0 ≤ 7302249; omega⟩ dL_law_1054 rfl rfl ?_
    refine g_icmp_eq 1060 1101 C dL_law_1057 (by decide) rfl (T := some ()) (E := none) (v := ()) (if_pos rfl) (fun _ => ?_) (fun h => by cases h)
    refine g_widen (200 + 60 * (j + 1)) (2300 + 10801 * (j + 1)) (by omega) (by omega) ?_
    exact kk d0 ad (σ) τ hd0 hG2
  · obtain ⟨r, e7, e8, hG2⟩ := gj_reason hG (xs (i + 1)) (1)
    refine g_aload_n 1014 C dL_law_1013 rfl rfl rfl ?_
    refine g_aload_n 1015 C dL_law_1014 rfl rfl rfl ?_
    refine g_iload_n 1016 C dL_law_1015 rfl rfl rfl ?_
    refine g_iconst 1017 C 1 dL_law_1016 rfl (by decide) ?_
    refine g_iadd 1018 C dL_law_1017 rfl ?_
    refine g_top (v := nI (i + 1)) (nI_1 i).symm ?_
    refine g_sld 1019 C hX K.2.2.1 hbA K.2.2.2 (by omega) dL_law_1018 rfl ?_
    refine g_aload_n 1020 C dL_law_1019 rfl rfl rfl ?_
    refine g_iload_n 1021 C dL_law_1020 rfl rfl rfl ?_
    refine g_iconst 1022 C 2 dL_law_1021 rfl (by decide) ?_
    refine g_iadd 1023 C dL_law_1022 rfl ?_
    refine g_top (v := nI (i + 2)) (sl_2 i).symm ?_
    refine g_sld 1024 C hX K.2.2.1 hbA K.2.2.2 (by omega) dL_law_1023 rfl ?_
    refine g_if_eq 1027 1031 C dL_law_1024 (by decide) rfl (T := none) (E := some ()) (v := ()) (if_neg hz) (fun h => by cases h) (fun _ => ?_)
    refine g_iconst 1028 C 1 dL_law_1027 rfl (by decide) ?_
    refine g_goto 1032 C dL_law_1028 (by decide) ?_
    refine g_callViP 1035 C (As := [.int (xs (i + 1)), .int 1]) (st := []) (n0 := 2) (ci := 8) (q0 := 13) (c_X7_reason l (sl_Zok jK jV jT) (ad := ad) e7) gL_law_X7_reason ⟨rfl, by decide +kernel, by decide +kernel, rfl⟩ rfl ⟨(Nat.le_of_ble_eq_true rfl), (Nat.le_of_ble_eq_true rfl)⟩ rfl rfl (cut_rTL Y ad σ ad8 τ) rfl (Nat.le_of_ble_eq_true rfl) ⟨by show 200 + 60 * j + 0 ≤ 600000; omega, by show 2300 + 10801 * j + 0 ≤ 7302249; omega⟩ dL_law_1032 rfl rfl ?_
    refine g_aload_n 1036 C dL_law_1035 rfl rfl rfl ?_
    refine g_aload_n 1037 C dL_law_1036 rfl rfl rfl ?_
    refine g_iload_n 1038 C dL_law_1037 rfl rfl rfl ?_
    refine g_iconst 1039 C 1 dL_law_1038 rfl (by decide) ?_
    refine g_iadd 1040 C dL_law_1039 rfl ?_
    refine g_top (v := nI (i + 1)) (nI_1 i).symm ?_
    refine g_sld 1041 C hX K.2.2.1 hbA K.2.2.2 (by omega) dL_law_1040 rfl ?_
    refine g_aload_n 1042 C dL_law_1041 rfl rfl rfl ?_
    refine g_iload_n 1043 C dL_law_1042 rfl rfl rfl ?_
    refine g_iconst 1044 C 2 dL_law_1043 rfl (by decide) ?_
    refine g_iadd 1045 C dL_law_1044 rfl ?_
    refine g_top (v := nI (i + 2)) (sl_2 i).symm ?_
    refine g_sld 1046 C hX K.2.2.1 hbA K.2.2.2 (by omega) dL_law_1045 rfl ?_
    refine g_if_eq 1049 1053 C dL_law_1046 (by decide) rfl (T := none) (E := some ()) (v := ()) (if_neg hz) (fun h => by cases h) (fun _ => ?_)
    refine g_iconst 1050 C 1 dL_law_1049 rfl (by decide) ?_
    refine g_goto 1054 C dL_law_1050 (by decide) ?_
    refine g_callViP 1057 C (As := [.int (xs (i + 1)), .int 1]) (st := [.int r]) (n0 := 2) (ci := 9) (q0 := 0) (c_X8_reason l (sl_Zok jK jV jT) (ad := ad8) e8) gL_law_X8_reason ⟨rfl, by decide +kernel, by decide +kernel, rfl⟩ rfl ⟨(Nat.le_of_ble_eq_true rfl), (Nat.le_of_ble_eq_true rfl)⟩ rfl rfl (cut_X8 Y ad (σ) ad8 τ τ) rfl (Nat.le_of_ble_eq_true rfl) ⟨by show 200 + 60 * j + 0 ≤ 600000; omega, by show 2300 + 10801 * j + 0 ≤ 7302249; omega⟩ dL_law_1054 rfl rfl ?_
    refine g_icmp_eq 1060 1101 C dL_law_1057 (by decide) rfl (T := some ()) (E := none) (v := ()) (if_pos rfl) (fun _ => ?_) (fun h => by cases h)
    refine g_widen (200 + 60 * (j + 1)) (2300 + 10801 * (j + 1)) (by omega) (by omega) ?_
    exact kk d0 ad (σ) τ hd0 hG2
set_option maxHeartbeats 8000000 in
set_option maxRecDepth 100000 in
theorem sl_case30 (K : sl_Cx p s m meth c D Y jK jV jT b L xs) (hd0 : s.drawn.sameBut d0 lw_cs) (hj : j < 512) (hi : i + 4 ≤ L) (hG : gx_G mm σ τ) (hm : mm < 8800) (kk : ∀ (d1 : Drawn) (ad2 : Nat → Nat) (σ2 τ2 : sg_S), s.drawn.sameBut d1 lw_cs → gx_G (mm + 12) σ2 τ2 → sl_G p l e s m below meth c D Y b d1 (j + 1) i 1101 ad2 σ2 ad8 τ2) : sl_G p l e s m below meth c D Y b d0 j i 1062 ad σ ad8 τ := by
  have C := K.1 d0 hd0
  have hX : va_X b L xs (s.setDrawn d0) (s.setDrawn d0).heap := K.2.1
  have hbA : ¬ sl_A s b := Nat.not_le.mpr K.2.2.1
  obtain ⟨r, σ2, τ2, e7, e8, hG2⟩ := gk_undo hG 
  refine g_aload_n 1063 C dL_law_1062 rfl rfl rfl ?_
  refine g_callViP 1066 C (As := []) (st := []) (n0 := 0) (ci := 8) (q0 := 13) (c_X7_undo l (sl_Zok jK jV jT) (ad := ad) e7) gL_law_X7_undo ⟨rfl, by decide +kernel, by decide +kernel, rfl⟩ rfl ⟨(Nat.le_of_ble_eq_true rfl), (Nat.le_of_ble_eq_true rfl)⟩ rfl rfl (cut_TNH Y ad σ σ2 ad8 τ) rfl (Nat.le_of_ble_eq_true rfl) ⟨by show 200 + 60 * j + 0 ≤ 600000; omega, by show 2300 + 10801 * j + 0 ≤ 7302249; omega⟩ dL_law_1063 rfl rfl ?_
  refine g_aload_n 1067 C dL_law_1066 rfl rfl rfl ?_
  refine g_callViP 1070 C (As := []) (st := [.int r]) (n0 := 0) (ci := 9) (q0 := 0) (c_X8_undo l (sl_Zok jK jV jT) (ad := ad8) e8) gL_law_X8_undo ⟨rfl, by decide +kernel, by decide +kernel, rfl⟩ rfl ⟨(Nat.le_of_ble_eq_true rfl), (Nat.le_of_ble_eq_true rfl)⟩ rfl rfl (cut_X8 Y ad (sg_mg kb_TNH σ σ2) ad8 τ τ2) rfl (Nat.le_of_ble_eq_true rfl) ⟨by show 200 + 60 * j + 0 ≤ 600000; omega, by show 2300 + 10801 * j + 0 ≤ 7302249; omega⟩ dL_law_1067 rfl rfl ?_
  refine g_icmp_eq 1073 1101 C dL_law_1070 (by decide) rfl (T := some ()) (E := none) (v := ()) (if_pos rfl) (fun _ => ?_) (fun h => by cases h)
  refine g_widen (200 + 60 * (j + 1)) (2300 + 10801 * (j + 1)) (by omega) (by omega) ?_
  exact kk d0 ad (sg_mg kb_TNH σ σ2) τ2 hd0 hG2
set_option maxHeartbeats 8000000 in
set_option maxRecDepth 100000 in
theorem sl_case31 (K : sl_Cx p s m meth c D Y jK jV jT b L xs) (hd0 : s.drawn.sameBut d0 lw_cs) (hj : j < 512) (hi : i + 4 ≤ L) (hG : gx_G mm σ τ) (hm : mm < 8800) (kk : ∀ (d1 : Drawn) (ad2 : Nat → Nat) (σ2 τ2 : sg_S), s.drawn.sameBut d1 lw_cs → gx_G (mm + 12) σ2 τ2 → sl_G p l e s m below meth c D Y b d1 (j + 1) i 1101 ad2 σ2 ad8 τ2) : sl_G p l e s m below meth c D Y b d0 j i 1075 ad σ ad8 τ := by
  have C := K.1 d0 hd0
  have hX : va_X b L xs (s.setDrawn d0) (s.setDrawn d0).heap := K.2.1
  have hbA : ¬ sl_A s b := Nat.not_le.mpr K.2.2.1
  obtain ⟨r, σ2, τ2, e7, e8, hG2⟩ := gk_save hG 
  refine g_aload_n 1076 C dL_law_1075 rfl rfl rfl ?_
  refine g_callViP 1079 C (As := []) (st := []) (n0 := 0) (ci := 8) (q0 := 13) (c_X7_save l (sl_Zok jK jV jT) (ad := ad) e7) gL_law_X7_save ⟨rfl, by decide +kernel, by decide +kernel, rfl⟩ rfl ⟨(Nat.le_of_ble_eq_true rfl), (Nat.le_of_ble_eq_true rfl)⟩ rfl rfl (cut_TNS Y ad σ σ2 ad8 τ) rfl (Nat.le_of_ble_eq_true rfl) ⟨by show 200 + 60 * j + 0 ≤ 600000; omega, by show 2300 + 10801 * j + 0 ≤ 7302249; omega⟩ dL_law_1076 rfl rfl ?_
  refine g_aload_n 1080 C dL_law_1079 rfl rfl rfl ?_
  refine g_callViP 1083 C (As := []) (st := [.int r]) (n0 := 0) (ci := 9) (q0 := 0) (c_X8_save l (sl_Zok jK jV jT) (ad := ad8) e8) gL_law_X8_save ⟨rfl, by decide +kernel, by decide +kernel, rfl⟩ rfl ⟨(Nat.le_of_ble_eq_true rfl), (Nat.le_of_ble_eq_true rfl)⟩ rfl rfl (cut_X8 Y ad (sg_mg kb_TNS σ σ2) ad8 τ τ2) rfl (Nat.le_of_ble_eq_true rfl) ⟨by show 200 + 60 * j + 0 ≤ 600000; omega, by show 2300 + 10801 * j + 0 ≤ 7302249; omega⟩ dL_law_1080 rfl rfl ?_
  refine g_icmp_eq 1086 1101 C dL_law_1083 (by decide) rfl (T := some ()) (E := none) (v := ()) (if_pos rfl) (fun _ => ?_) (fun h => by cases h)
  refine g_widen (200 + 60 * (j + 1)) (2300 + 10801 * (j + 1)) (by omega) (by omega) ?_
  exact kk d0 ad (sg_mg kb_TNS σ σ2) τ2 hd0 hG2
set_option maxHeartbeats 8000000 in
set_option maxRecDepth 100000 in
theorem sl_case32 (K : sl_Cx p s m meth c D Y jK jV jT b L xs) (hd0 : s.drawn.sameBut d0 lw_cs) (hj : j < 512) (hi : i + 4 ≤ L) (hG : gx_G mm σ τ) (hm : mm < 8800) (kk : ∀ (d1 : Drawn) (ad2 : Nat → Nat) (σ2 τ2 : sg_S), s.drawn.sameBut d1 lw_cs → gx_G (mm + 12) σ2 τ2 → sl_G p l e s m below meth c D Y b d1 (j + 1) i 1101 ad2 σ2 ad8 τ2) : sl_G p l e s m below meth c D Y b d0 j i 1088 ad σ ad8 τ := by
  have C := K.1 d0 hd0
  have hX : va_X b L xs (s.setDrawn d0) (s.setDrawn d0).heap := K.2.1
  have hbA : ¬ sl_A s b := Nat.not_le.mpr K.2.2.1
  obtain ⟨r, σ2, τ2, e7, e8, hG2⟩ := gk_restore hG 
  refine g_aload_n 1089 C dL_law_1088 rfl rfl rfl ?_
  refine g_callViP 1092 C (As := []) (st := []) (n0 := 0) (ci := 8) (q0 := 13) (c_X7_restore l (sl_Zok jK jV jT) (ad := ad) e7) gL_law_X7_restore ⟨rfl, by decide +kernel, by decide +kernel, rfl⟩ rfl ⟨(Nat.le_of_ble_eq_true rfl), (Nat.le_of_ble_eq_true rfl)⟩ rfl rfl (cut_TNSh Y ad σ σ2 ad8 τ) rfl (Nat.le_of_ble_eq_true rfl) ⟨by show 200 + 60 * j + 0 ≤ 600000; omega, by show 2300 + 10801 * j + 0 ≤ 7302249; omega⟩ dL_law_1089 rfl rfl ?_
  refine g_aload_n 1093 C dL_law_1092 rfl rfl rfl ?_
  refine g_callViP 1096 C (As := []) (st := [.int r]) (n0 := 0) (ci := 9) (q0 := 0) (c_X8_restore l (sl_Zok jK jV jT) (ad := ad8) e8) gL_law_X8_restore ⟨rfl, by decide +kernel, by decide +kernel, rfl⟩ rfl ⟨(Nat.le_of_ble_eq_true rfl), (Nat.le_of_ble_eq_true rfl)⟩ rfl rfl (cut_X8 Y ad (sg_mg kb_TNSh σ σ2) ad8 τ τ2) rfl (Nat.le_of_ble_eq_true rfl) ⟨by show 200 + 60 * j + 0 ≤ 600000; omega, by show 2300 + 10801 * j + 0 ≤ 7302249; omega⟩ dL_law_1093 rfl rfl ?_
  refine g_icmp_eq 1099 1101 C dL_law_1096 (by decide) rfl (T := some ()) (E := none) (v := ()) (if_pos rfl) (fun _ => ?_) (fun h => by cases h)
  refine g_widen (200 + 60 * (j + 1)) (2300 + 10801 * (j + 1)) (by omega) (by omega) ?_
  exact kk d0 ad (sg_mg kb_TNSh σ σ2) τ2 hd0 hG2
set_option maxHeartbeats 8000000 in
set_option maxRecDepth 100000 in
theorem sl_case20 (K : sl_Cx p s m meth c D Y jK jV jT b L xs) (hd0 : s.drawn.sameBut d0 lw_cs) (hj : j < 512) (hi : i + 4 ≤ L) (hG : gx_G mm σ τ) (hm : mm < 8800) (kk : ∀ (d1 : Drawn) (ad2 : Nat → Nat) (σ2 τ2 : sg_S), s.drawn.sameBut d1 lw_cs → gx_G (mm + 12) σ2 τ2 → sl_G p l e s m below meth c D Y b d1 (j + 1) i 1101 ad2 σ2 ad8 τ2) : sl_G p l e s m below meth c D Y b d0 j i 796 ad σ ad8 τ := by
  have hG2 : gx_G (mm + 12) σ τ := gj_mono hG (by omega)
  have C := K.1 d0 hd0
  obtain ⟨r, e7, e8⟩ := fp_meanE hG.1
  refine g_aload_n 797 C dL_law_796 rfl rfl rfl ?_
  refine g_callDd 800 hd0 C (As := []) (st := []) (n0 := 0) (ci := 8) (q0 := 13) (c_X7_meanSun l (sl_Zok jK jV jT) (ad := ad) e7) gL_law_X7_meanSun ⟨rfl, by decide +kernel, by decide +kernel, rfl⟩ rfl ⟨(Nat.le_of_ble_eq_true rfl), (Nat.le_of_ble_eq_true rfl)⟩ rfl rfl (cut_rTN Y ad σ ad8 τ) rfl (Nat.le_of_ble_eq_true rfl) ⟨by show 200 + 60 * j + 0 ≤ 600000; omega, by show 2300 + 10801 * j + 0 ≤ 7302249; omega⟩ dL_law_797 rfl rfl (fun p1 d1 hd1 ha => ?_)
  have C := K.1 d1 hd1
  refine g_dstore 802 C [(4, .double p1), (0, .ref b), (1, .ref (ad 0)), (2, .ref (ad8 0)), (3, .int (nI i))] dL_law_800 rfl (by decide) rfl ?_
  refine g_aload_n 803 C dL_law_802 rfl rfl rfl ?_
  refine g_callDd 806 hd1 C (As := []) (st := []) (n0 := 0) (ci := 9) (q0 := 0) (c_X8_meanSun l (sl_Zok jK jV jT) (ad := ad8) e8) gL_law_X8_meanSun ⟨rfl, by decide +kernel, by decide +kernel, rfl⟩ rfl ⟨(Nat.le_of_ble_eq_true rfl), (Nat.le_of_ble_eq_true rfl)⟩ rfl rfl (cut_X8 Y ad σ ad8 τ τ) rfl (Nat.le_of_ble_eq_true rfl) ⟨by show 200 + 60 * j + 0 ≤ 600000; omega, by show 2300 + 10801 * j + 0 ≤ 7302249; omega⟩ dL_law_803 rfl rfl (fun p2 d3 hd3 hb => ?_)
  have C := K.1 d3 hd3
  refine g_dstore 808 C [(6, .double p2), (4, .double p1), (0, .ref b), (1, .ref (ad 0)), (2, .ref (ad8 0)), (3, .int (nI i))] dL_law_806 rfl (by decide) rfl ?_
  have hcmp := fp_cmp (fp_of64 ha) (fp_of64 hb)
  refine g_dload 810 C dL_law_808 rfl rfl ?_
  refine g_dload 812 C dL_law_810 rfl rfl ?_
  refine g_dcmp 813 C dL_law_812 rfl ?_
  by_cases hv : Op.cmpValue (FP.dcmp p1 p2) CmpOp.l = 0
  · refine g_if_eq 816 834 C dL_law_813 (by decide) rfl (T := some ()) (E := none) (v := ()) (if_pos hv) (fun _ => ?_) (fun h => by cases h)
    refine g_goto 1101 C dL_law_834 (by decide) ?_
    refine g_lv (lv2 := [(0, .ref b), (1, .ref (ad 0)), (2, .ref (ad8 0)), (3, .int (nI i))]) [2, 3, 4, 5] rfl ?_
    refine g_widen (200 + 60 * (j + 1)) (2300 + 10801 * (j + 1)) (by omega) (by omega) ?_
    exact kk d3 ad σ τ hd3 hG2
  · obtain ⟨n1, n2⟩ := hcmp.resolve_left hv
    refine g_if_eq 816 834 C dL_law_813 (by decide) rfl (T := none) (E := some ()) (v := ()) (if_neg hv) (fun h => by cases h) (fun _ => ?_)
    refine g_dload 818 C dL_law_816 rfl rfl ?_
    refine g_dload 820 C dL_law_818 rfl rfl ?_
    refine g_dcmp 821 C dL_law_820 rfl ?_
    refine g_if_eq 824 832 C dL_law_821 (by decide) rfl (T := none) (E := some ()) (v := ()) (if_neg n1) (fun h => by cases h) (fun _ => ?_)
    refine g_dload 826 C dL_law_824 rfl rfl ?_
    refine g_dload 828 C dL_law_826 rfl rfl ?_
    refine g_dcmp 829 C dL_law_828 rfl ?_
    refine g_if_ne 832 834 C dL_law_829 (by decide) rfl (T := some ()) (E := none) (v := ()) (if_neg n2) (fun _ => ?_) (fun h => by cases h)
    refine g_goto 1101 C dL_law_834 (by decide) ?_
    refine g_lv (lv2 := [(0, .ref b), (1, .ref (ad 0)), (2, .ref (ad8 0)), (3, .int (nI i))]) [2, 3, 4, 5] rfl ?_
    refine g_widen (200 + 60 * (j + 1)) (2300 + 10801 * (j + 1)) (by omega) (by omega) ?_
    exact kk d3 ad σ τ hd3 hG2
set_option maxHeartbeats 8000000 in
set_option maxRecDepth 100000 in
theorem sl_case21 (K : sl_Cx p s m meth c D Y jK jV jT b L xs) (hd0 : s.drawn.sameBut d0 lw_cs) (hj : j < 512) (hi : i + 4 ≤ L) (hG : gx_G mm σ τ) (hm : mm < 8800) (kk : ∀ (d1 : Drawn) (ad2 : Nat → Nat) (σ2 τ2 : sg_S), s.drawn.sameBut d1 lw_cs → gx_G (mm + 12) σ2 τ2 → sl_G p l e s m below meth c D Y b d1 (j + 1) i 1101 ad2 σ2 ad8 τ2) : sl_G p l e s m below meth c D Y b d0 j i 837 ad σ ad8 τ := by
  have hG2 : gx_G (mm + 12) σ τ := gj_mono hG (by omega)
  have C := K.1 d0 hd0
  have eS := fp_shareE hG.1
  refine g_aload_n 838 C dL_law_837 rfl rfl rfl ?_
  refine g_callDf 841 hd0 C (As := []) (st := []) (n0 := 0) (ci := 8) (q0 := 13) (c_X7_paidShare l (sl_Zok jK jV jT) (ad := ad) (σ := σ)) gL_law_X7_paidShare ⟨rfl, by decide +kernel, by decide +kernel, rfl⟩ rfl ⟨(Nat.le_of_ble_eq_true rfl), (Nat.le_of_ble_eq_true rfl)⟩ rfl rfl (cut_rTN Y ad σ ad8 τ) rfl (Nat.le_of_ble_eq_true rfl) ⟨by show 200 + 60 * j + 0 ≤ 600000; omega, by show 2300 + 10801 * j + 0 ≤ 7302249; omega⟩ dL_law_838 rfl rfl (fun f1 d1 hd1 ha => ?_)
  have C := K.1 d1 hd1
  refine g_f2d 842 hd1 C dL_law_841 rfl (fun p1 d2 hd2 ha1 => ?_)
  have C := K.1 d2 hd2
  refine g_dstore 844 C [(4, .double p1), (0, .ref b), (1, .ref (ad 0)), (2, .ref (ad8 0)), (3, .int (nI i))] dL_law_842 rfl (by decide) rfl ?_
  refine g_aload_n 845 C dL_law_844 rfl rfl rfl ?_
  refine g_callDf 848 hd2 C (As := []) (st := []) (n0 := 0) (ci := 9) (q0 := 0) (c_X8_paidShare l (sl_Zok jK jV jT) (ad := ad8) (σ := τ)) gL_law_X8_paidShare ⟨rfl, by decide +kernel, by decide +kernel, rfl⟩ rfl ⟨(Nat.le_of_ble_eq_true rfl), (Nat.le_of_ble_eq_true rfl)⟩ rfl rfl (cut_X8 Y ad σ ad8 τ τ) rfl (Nat.le_of_ble_eq_true rfl) ⟨by show 200 + 60 * j + 0 ≤ 600000; omega, by show 2300 + 10801 * j + 0 ≤ 7302249; omega⟩ dL_law_845 rfl rfl (fun f2 d3 hd3 hb => ?_)
  have C := K.1 d3 hd3
  refine g_f2d 849 hd3 C dL_law_848 rfl (fun p2 d4 hd4 hb1 => ?_)
  have C := K.1 d4 hd4
  refine g_dstore 851 C [(6, .double p2), (4, .double p1), (0, .ref b), (1, .ref (ad 0)), (2, .ref (ad8 0)), (3, .int (nI i))] dL_law_849 rfl (by decide) rfl ?_
  have hcmp := fp_cmp (fp_of32 ha1 (by rw [← eS]; exact ha)) (fp_of32 hb1 hb)
  refine g_dload 853 C dL_law_851 rfl rfl ?_
  refine g_dload 855 C dL_law_853 rfl rfl ?_
  refine g_dcmp 856 C dL_law_855 rfl ?_
  by_cases hv : Op.cmpValue (FP.dcmp p1 p2) CmpOp.l = 0
  · refine g_if_eq 859 877 C dL_law_856 (by decide) rfl (T := some ()) (E := none) (v := ()) (if_pos hv) (fun _ => ?_) (fun h => by cases h)
    refine g_goto 1101 C dL_law_877 (by decide) ?_
    refine g_lv (lv2 := [(0, .ref b), (1, .ref (ad 0)), (2, .ref (ad8 0)), (3, .int (nI i))]) [2, 3, 4, 5] rfl ?_
    refine g_widen (200 + 60 * (j + 1)) (2300 + 10801 * (j + 1)) (by omega) (by omega) ?_
    exact kk d4 ad σ τ hd4 hG2
  · obtain ⟨n1, n2⟩ := hcmp.resolve_left hv
    refine g_if_eq 859 877 C dL_law_856 (by decide) rfl (T := none) (E := some ()) (v := ()) (if_neg hv) (fun h => by cases h) (fun _ => ?_)
    refine g_dload 861 C dL_law_859 rfl rfl ?_
    refine g_dload 863 C dL_law_861 rfl rfl ?_
    refine g_dcmp 864 C dL_law_863 rfl ?_
    refine g_if_eq 867 875 C dL_law_864 (by decide) rfl (T := none) (E := some ()) (v := ()) (if_neg n1) (fun h => by cases h) (fun _ => ?_)
    refine g_dload 869 C dL_law_867 rfl rfl ?_
    refine g_dload 871 C dL_law_869 rfl rfl ?_
    refine g_dcmp 872 C dL_law_871 rfl ?_
    refine g_if_ne 875 877 C dL_law_872 (by decide) rfl (T := some ()) (E := none) (v := ()) (if_neg n2) (fun _ => ?_) (fun h => by cases h)
    refine g_goto 1101 C dL_law_877 (by decide) ?_
    refine g_lv (lv2 := [(0, .ref b), (1, .ref (ad 0)), (2, .ref (ad8 0)), (3, .int (nI i))]) [2, 3, 4, 5] rfl ?_
    refine g_widen (200 + 60 * (j + 1)) (2300 + 10801 * (j + 1)) (by omega) (by omega) ?_
    exact kk d4 ad σ τ hd4 hG2
end SLC
