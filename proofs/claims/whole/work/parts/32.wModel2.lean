theorem kiX8_settles_X8 : ∀ w ∈ u_ws RX8 TX8 27, w ∈ wsX8_settles := by decide +kernel
theorem kfX8_settles_13 : Cond.fieldLink RX8 13 "WeatherMinistryModel" "v" "[I" ∈ wsX8_settles := by decide +kernel
theorem kfX8_settles_139 : Cond.fieldLink RX8 139 "WeatherMinistryModel" "isPaid" "Z" ∈ wsX8_settles := by decide +kernel
def f_X8_settles_J145 (κ4 : Int32 → Int32 → sg_S → Option (Int32 × sg_S)) (z1 : Int32) (z2 : Int32) (z3 : Int32) (z4 : Int32) (z6 : Int32) (t0 : Int32) (σz : sg_S) : Option (Int32 × sg_S) := sg_grd (sg_01 t0) (sg_let (sg_up σz 0 15 t0) (fun σ25 => (if σ25 0 15 = 0 then sg_bnd (f_X8_at z3 3) (fun r26 => sg_grd (sg_in r26 79) (sg_let (sg_up σ25 1 (r26.toNatClampNeg) ((σ25 1 r26.toNatClampNeg) + (z4 - z6))) (fun σ29 => sg_let (sg_up σ29 1 6 ((σ29 1 6) + (2 * (z4 - z6)))) (fun σ30 => sg_bnd2 (f_X8_rains z3 (2 * (z4 - z6)) σ30) (fun r33 τ31 => κ4 (z1 + 1) z2 τ31))))) else sg_let (sg_up σ25 1 8 ((σ25 1 8) + 1)) (fun σ34 => κ4 z1 z2 σ34))))
def f_X8_settles_J88 (κ4 : Int32 → Int32 → sg_S → Option (Int32 × sg_S)) (z1 : Int32) (z2 : Int32) (z3 : Int32) (z4 : Int32) (t0 : Int32) (σz : sg_S) : Option (Int32 × sg_S) := sg_bnd (f_X8_goes z2 σz) (fun τ16 => sg_bnd (f_X8_at z3 0) (fun r18 => sg_grd (sg_in r18 79) (sg_let (sg_up τ16 1 (r18.toNatClampNeg) ((τ16 1 r18.toNatClampNeg) - t0)) (fun σ21 => sg_let (sg_up σ21 1 3 ((σ21 1 3) + t0)) (fun σ22 => sg_let (sg_up σ22 1 7 ((σ22 1 7) + 1)) (fun σ23 => (if t0 = z4 then f_X8_settles_J145 κ4 z1 z2 z3 z4 t0 1 σ23 else f_X8_settles_J145 κ4 z1 z2 z3 z4 t0 0 σ23)))))))
def f_X8_settles_L4 : Nat → Int32 → Int32 → sg_S → Option (Int32 × sg_S)
  | 0, _, _, _ => none
  | nz + 1, z1, z2, σz => (if z2 < σz 1 1 then sg_bnd (f_X8_in z2 2) (fun r1 => sg_grd (sg_in r1 79) ((if σz 1 r1.toNatClampNeg = σz 1 0 then sg_bnd (f_X8_in z2 0) (fun r4 => sg_grd (sg_in r4 79) (sg_let (σz 1 r4.toNatClampNeg) (fun y7 => sg_bnd (f_X8_in z2 1) (fun r8 => sg_grd (sg_in r8 79) (sg_let (σz 1 r8.toNatClampNeg) (fun y11 => sg_bnd (f_X8_at y7 0) (fun r12 => sg_grd (sg_in r12 79) (sg_let (σz 1 r12.toNatClampNeg) (fun y15 => (if y15 < y11 then f_X8_settles_J88 (fun z1' z2' σz' => f_X8_settles_L4 nz z1' z2' σz') z1 z2 y7 y11 y15 σz else f_X8_settles_J88 (fun z1' z2' σz' => f_X8_settles_L4 nz z1' z2' σz') z1 z2 y7 y11 y11 σz)))))))))) else f_X8_settles_L4 nz z1 (z2 + 1) σz))) else some (z1, σz))
def f_X8_settles  (σ : sg_S) : Option (Int32 × sg_S) := f_X8_settles_L4 1000 0 0 σ
set_option maxHeartbeats 4000000 in
set_option maxRecDepth 100000 in
theorem c_X8_settles (l : Launch) {D : va_G} {Y : Nat → ClassId} {Z : (Nat → Prop) → State → Heap → Prop} (hZ : sg_Zok Z) {ad : Nat → Nat} {σ : sg_S} {σ' : sg_S} {r : Int32} (hF : f_X8_settles  σ = some (r, σ')) : sg_MI l yX8_settles wsX8_settles 2 51 D Y Z [.ref (ad 0)] (ww_X8 Y ad σ) r (ww_X8 Y ad σ') := by
  intro sz
  refine sg_enter (own := RX8) (maxL := 8) (ret := (some .int)) (cc := cX8_settles) (by decide +kernel) rfl rfl (Nat.le_of_ble_eq_true rfl) hZ ?_
  intro p e s m args below meth c C hr Q hQ hsz
  refine g_lv (lv2 := [(0, .ref (ad 0))]) [0] rfl ?_
  have K145 : ∀ (κ4 : Int32 → Int32 → sg_S → Option (Int32 × sg_S)), (∀ (z1 : Int32) (z2 : Int32) (σz : sg_S), κ4 z1 z2 σz = some (r, σ') → sg_G p l e ({ frames := 2, cells := 0, slots := 0, locals := 51 } : Room) s m args below meth c D (va_A (ww_X8 Y ad σ) s.heap.size) 8 0 0 Q 4 [(0, .ref (ad 0)), (1, .int z1), (2, .int z2)] [] (ww_X8 Y ad σz)) → ∀ (z1 : Int32) (z2 : Int32) (z3 : Int32) (z4 : Int32) (z6 : Int32) (t0 : Int32) (σz : sg_S), f_X8_settles_J145 κ4 z1 z2 z3 z4 z6 t0 σz = some (r, σ') → sg_G p l e ({ frames := 2, cells := 0, slots := 0, locals := 51 } : Room) s m args below meth c D (va_A (ww_X8 Y ad σ) s.heap.size) 8 0 0 Q 145 [(0, .ref (ad 0)), (1, .int z1), (2, .int z2), (3, .int z3), (4, .int z4), (6, .int z6)] [.int t0, .ref (ad 0)] (ww_X8 Y ad σz) := by
    intro κ4 hκ4 z1 z2 z3 z4 z6 t0 σz hF
    rw [f_X8_settles_J145] at hF
    obtain ⟨h24, hF⟩ := sg_grdE hF
    obtain ⟨σ25, eσ25, hF⟩ := sg_letE hF
    refine g_put 148 C (own := RX8) (C1 := RX8) (T := TX8) (w2 := (ww_X8 Y ad σ25)) 0 15 tyX8 tyX8_ok nmX8 kiX8_settles_X8 kfX8_settles_139 rfl rfl (ty := .boolean) (by decide) (sg_01n h24).1 (sg_01n h24).2 (sg_blt rfl) dX8_settles_145 rfl rfl rfl (by decide) (by rw [eσ25]; rfl) ?_
    refine g_aload_n 149 C dX8_settles_148 rfl rfl rfl ?_
    refine g_get 152 C (own := RX8) (C1 := RX8) (T := TX8) 0 15 (.int (σ25 0 15)) kiX8_settles_X8 kfX8_settles_139 rfl dX8_settles_149 rfl rfl rfl (by decide) rfl ?_
    refine g_if_eq 155 169 C dX8_settles_152 (by decide) rfl hF (fun hF => ?_) (fun hF => ?_)
    · refine g_aload_n 170 C dX8_settles_169 rfl rfl rfl ?_
      refine g_get 173 C (own := RX8) (C1 := RX8) (T := TX8) 0 8 (.ref (ad 1)) kiX8_settles_X8 kfX8_settles_13 rfl dX8_settles_170 rfl rfl rfl (by decide) rfl ?_
      refine g_iload_n 174 C dX8_settles_173 rfl rfl rfl ?_
      refine g_iconst 175 C 3 dX8_settles_174 rfl (by decide) ?_
      obtain ⟨r26, q27, hF⟩ := sg_bndE hF
      refine g_callSi 178 C (w2 := (ww_X8 Y ad σ25)) (As := [.int z3, .int 3]) (st := [.ref (ad 1)]) (n0 := 2) [] [0, 1, 2, 3, 4, 5, 6, 7, 8, 9, 10, 11, 12] [0, 1, 2, 3, 4, 5, 6, 7, 8, 9, 10, 11, 12] (c_X8_at l hZ (ad := ad) (σ := σ25) q27) gX8_settles_X8_at ⟨by decide +kernel, by decide +kernel, rfl⟩ rfl ⟨Nat.le_of_ble_eq_true rfl, Nat.le_of_ble_eq_true rfl⟩ ⟨rfl, rfl, rfl, by decide, rfl, rfl⟩ rfl rfl (Nat.le_of_ble_eq_true rfl) ⟨Nat.le_refl _, Nat.le_refl _⟩ dX8_settles_175 rfl rfl ?_
      refine g_dup2 179 C dX8_settles_178 rfl rfl rfl ?_
      obtain ⟨h28, hF⟩ := sg_grdE hF
      refine g_ialdc 180 C 1 (r26.toNatClampNeg) (σ25 1 r26.toNatClampNeg) dX8_settles_179 rfl rfl rfl h28 rfl ?_
      refine g_iload 182 C dX8_settles_180 rfl rfl ?_
      refine g_iload 184 C dX8_settles_182 rfl rfl ?_
      refine g_isub 185 C dX8_settles_184 rfl ?_
      refine g_iadd 186 C dX8_settles_185 rfl ?_
      obtain ⟨σ29, eσ29, hF⟩ := sg_letE hF
      refine g_iast 187 C (w2 := (ww_X8 Y ad σ29)) 1 dX8_settles_186 rfl rfl h28 (by rw [eσ29]; rfl) ?_
      refine g_aload_n 188 C dX8_settles_187 rfl rfl rfl ?_
      refine g_get 191 C (own := RX8) (C1 := RX8) (T := TX8) 0 8 (.ref (ad 1)) kiX8_settles_X8 kfX8_settles_13 rfl dX8_settles_188 rfl rfl rfl (by decide) rfl ?_
      refine g_bipush 193 C 6 dX8_settles_191 rfl (by decide) ?_
      refine g_dup2 194 C dX8_settles_193 rfl rfl rfl ?_
      refine g_ialdc 195 C 1 (6) (σ29 1 6) dX8_settles_194 rfl rfl (by decide) (by decide) rfl ?_
      refine g_iconst 196 C 2 dX8_settles_195 rfl (by decide) ?_
      refine g_iload 198 C dX8_settles_196 rfl rfl ?_
      refine g_iload 200 C dX8_settles_198 rfl rfl ?_
      refine g_isub 201 C dX8_settles_200 rfl ?_
      refine g_imul 202 C dX8_settles_201 rfl ?_
      refine g_iadd 203 C dX8_settles_202 rfl ?_
      obtain ⟨σ30, eσ30, hF⟩ := sg_letE hF
      refine g_iast 204 C (w2 := (ww_X8 Y ad σ30)) 1 dX8_settles_203 rfl rfl (by decide) (by rw [eσ30]; rfl) ?_
      refine g_aload_n 205 C dX8_settles_204 rfl rfl rfl ?_
      refine g_iload_n 206 C dX8_settles_205 rfl rfl rfl ?_
      refine g_iconst 207 C 2 dX8_settles_206 rfl (by decide) ?_
      refine g_iload 209 C dX8_settles_207 rfl rfl ?_
      refine g_iload 211 C dX8_settles_209 rfl rfl ?_
      refine g_isub 212 C dX8_settles_211 rfl ?_
      refine g_imul 213 C dX8_settles_212 rfl ?_
      obtain ⟨r33, τ31, q32, hF⟩ := sg_bnd2E hF
      refine g_callVi 216 C (w2 := (ww_X8 Y ad τ31)) (As := [.int z3, .int (2 * (z4 - z6))]) (st := []) (n0 := 2) (ci := 9) (q0 := 0) [0, 1, 2, 3, 4, 5, 6, 7, 8, 9, 10, 11, 12] [] [0, 1, 2, 3, 4, 5, 6, 7, 8, 9, 10, 11, 12] (c_X8_rains l hZ (ad := ad) q32) gX8_settles_X8_rains ⟨rfl, by decide +kernel, by decide +kernel, rfl⟩ rfl ⟨Nat.le_of_ble_eq_true rfl, Nat.le_of_ble_eq_true rfl⟩ rfl rfl ⟨rfl, rfl, rfl, by decide, rfl, rfl⟩ rfl rfl (Nat.le_of_ble_eq_true rfl) ⟨Nat.le_refl _, Nat.le_refl _⟩ dX8_settles_213 rfl rfl ?_
      refine g_istore 218 C [(7, .int r33), (0, .ref (ad 0)), (1, .int z1), (2, .int z2), (3, .int z3), (4, .int z4), (6, .int z6)] dX8_settles_216 rfl (by decide) rfl ?_
      refine g_iinc 221 C 2 (z1 + 1) [(1, .int (z1 + 1)), (7, .int r33), (0, .ref (ad 0)), (2, .int z2), (3, .int z3), (4, .int z4), (6, .int z6)] dX8_settles_218 rfl rfl rfl (by decide) rfl ?_
      refine g_goto 4 C dX8_settles_221 (by decide) ?_
      refine g_lv (lv2 := [(0, .ref (ad 0)), (1, .int (z1 + 1)), (2, .int z2)]) [2, 0, 3] rfl ?_
      exact hκ4 (z1 + 1) z2 τ31 hF
    · refine g_aload_n 156 C dX8_settles_155 rfl rfl rfl ?_
      refine g_get 159 C (own := RX8) (C1 := RX8) (T := TX8) 0 8 (.ref (ad 1)) kiX8_settles_X8 kfX8_settles_13 rfl dX8_settles_156 rfl rfl rfl (by decide) rfl ?_
      refine g_bipush 161 C 8 dX8_settles_159 rfl (by decide) ?_
      refine g_dup2 162 C dX8_settles_161 rfl rfl rfl ?_
      refine g_ialdc 163 C 1 (8) (σ25 1 8) dX8_settles_162 rfl rfl (by decide) (by decide) rfl ?_
      refine g_iconst 164 C 1 dX8_settles_163 rfl (by decide) ?_
      refine g_iadd 165 C dX8_settles_164 rfl ?_
      obtain ⟨σ34, eσ34, hF⟩ := sg_letE hF
      refine g_iast 166 C (w2 := (ww_X8 Y ad σ34)) 1 dX8_settles_165 rfl rfl (by decide) (by rw [eσ34]; rfl) ?_
      refine g_goto 4 C dX8_settles_166 (by decide) ?_
      refine g_lv (lv2 := [(0, .ref (ad 0)), (1, .int z1), (2, .int z2)]) [0, 1, 2] rfl ?_
      exact hκ4 z1 z2 σ34 hF
  have K88 : ∀ (κ4 : Int32 → Int32 → sg_S → Option (Int32 × sg_S)), (∀ (z1 : Int32) (z2 : Int32) (σz : sg_S), κ4 z1 z2 σz = some (r, σ') → sg_G p l e ({ frames := 2, cells := 0, slots := 0, locals := 51 } : Room) s m args below meth c D (va_A (ww_X8 Y ad σ) s.heap.size) 8 0 0 Q 4 [(0, .ref (ad 0)), (1, .int z1), (2, .int z2)] [] (ww_X8 Y ad σz)) → ∀ (z1 : Int32) (z2 : Int32) (z3 : Int32) (z4 : Int32) (t0 : Int32) (σz : sg_S), f_X8_settles_J88 κ4 z1 z2 z3 z4 t0 σz = some (r, σ') → sg_G p l e ({ frames := 2, cells := 0, slots := 0, locals := 51 } : Room) s m args below meth c D (va_A (ww_X8 Y ad σ) s.heap.size) 8 0 0 Q 88 [(0, .ref (ad 0)), (1, .int z1), (2, .int z2), (3, .int z3), (4, .int z4)] [.int t0] (ww_X8 Y ad σz) := by
    intro κ4 hκ4 z1 z2 z3 z4 t0 σz hF
    rw [f_X8_settles_J88] at hF
    refine g_istore 90 C [(6, .int t0), (0, .ref (ad 0)), (1, .int z1), (2, .int z2), (3, .int z3), (4, .int z4)] dX8_settles_88 rfl (by decide) rfl ?_
    refine g_aload_n 91 C dX8_settles_90 rfl rfl rfl ?_
    refine g_iload_n 92 C dX8_settles_91 rfl rfl rfl ?_
    obtain ⟨τ16, q17, hF⟩ := sg_bndE hF
    refine g_callVv 95 C (w2 := (ww_X8 Y ad τ16)) (As := [.int z2]) (st := []) (n0 := 1) (ci := 9) (q0 := 0) [0, 1, 2, 3, 4, 5, 6, 7, 8, 9, 10, 11, 12] [] [0, 1, 2, 3, 4, 5, 6, 7, 8, 9, 10, 11, 12] (c_X8_goes l hZ (ad := ad) q17) gX8_settles_X8_goes ⟨rfl, by decide +kernel, by decide +kernel, rfl⟩ rfl ⟨Nat.le_of_ble_eq_true rfl, Nat.le_of_ble_eq_true rfl⟩ rfl rfl ⟨rfl, rfl, rfl, by decide, rfl, rfl⟩ rfl rfl (Nat.le_of_ble_eq_true rfl) ⟨Nat.le_refl _, Nat.le_refl _⟩ dX8_settles_92 rfl rfl ?_
    refine g_aload_n 96 C dX8_settles_95 rfl rfl rfl ?_
    refine g_get 99 C (own := RX8) (C1 := RX8) (T := TX8) 0 8 (.ref (ad 1)) kiX8_settles_X8 kfX8_settles_13 rfl dX8_settles_96 rfl rfl rfl (by decide) rfl ?_
    refine g_iload_n 100 C dX8_settles_99 rfl rfl rfl ?_
    refine g_iconst 101 C 0 dX8_settles_100 rfl (by decide) ?_
    obtain ⟨r18, q19, hF⟩ := sg_bndE hF
    refine g_callSi 104 C (w2 := (ww_X8 Y ad τ16)) (As := [.int z3, .int 0]) (st := [.ref (ad 1)]) (n0 := 2) [] [0, 1, 2, 3, 4, 5, 6, 7, 8, 9, 10, 11, 12] [0, 1, 2, 3, 4, 5, 6, 7, 8, 9, 10, 11, 12] (c_X8_at l hZ (ad := ad) (σ := τ16) q19) gX8_settles_X8_at ⟨by decide +kernel, by decide +kernel, rfl⟩ rfl ⟨Nat.le_of_ble_eq_true rfl, Nat.le_of_ble_eq_true rfl⟩ ⟨rfl, rfl, rfl, by decide, rfl, rfl⟩ rfl rfl (Nat.le_of_ble_eq_true rfl) ⟨Nat.le_refl _, Nat.le_refl _⟩ dX8_settles_101 rfl rfl ?_
    refine g_dup2 105 C dX8_settles_104 rfl rfl rfl ?_
    obtain ⟨h20, hF⟩ := sg_grdE hF
    refine g_ialdc 106 C 1 (r18.toNatClampNeg) (τ16 1 r18.toNatClampNeg) dX8_settles_105 rfl rfl rfl h20 rfl ?_
    refine g_iload 108 C dX8_settles_106 rfl rfl ?_
    refine g_isub 109 C dX8_settles_108 rfl ?_
    obtain ⟨σ21, eσ21, hF⟩ := sg_letE hF
    refine g_iast 110 C (w2 := (ww_X8 Y ad σ21)) 1 dX8_settles_109 rfl rfl h20 (by rw [eσ21]; rfl) ?_
    refine g_aload_n 111 C dX8_settles_110 rfl rfl rfl ?_
    refine g_get 114 C (own := RX8) (C1 := RX8) (T := TX8) 0 8 (.ref (ad 1)) kiX8_settles_X8 kfX8_settles_13 rfl dX8_settles_111 rfl rfl rfl (by decide) rfl ?_
    refine g_iconst 115 C 3 dX8_settles_114 rfl (by decide) ?_
    refine g_dup2 116 C dX8_settles_115 rfl rfl rfl ?_
    refine g_ialdc 117 C 1 (3) (σ21 1 3) dX8_settles_116 rfl rfl (by decide) (by decide) rfl ?_
    refine g_iload 119 C dX8_settles_117 rfl rfl ?_
    refine g_iadd 120 C dX8_settles_119 rfl ?_
    obtain ⟨σ22, eσ22, hF⟩ := sg_letE hF
    refine g_iast 121 C (w2 := (ww_X8 Y ad σ22)) 1 dX8_settles_120 rfl rfl (by decide) (by rw [eσ22]; rfl) ?_
    refine g_aload_n 122 C dX8_settles_121 rfl rfl rfl ?_
    refine g_get 125 C (own := RX8) (C1 := RX8) (T := TX8) 0 8 (.ref (ad 1)) kiX8_settles_X8 kfX8_settles_13 rfl dX8_settles_122 rfl rfl rfl (by decide) rfl ?_
    refine g_bipush 127 C 7 dX8_settles_125 rfl (by decide) ?_
    refine g_dup2 128 C dX8_settles_127 rfl rfl rfl ?_
    refine g_ialdc 129 C 1 (7) (σ22 1 7) dX8_settles_128 rfl rfl (by decide) (by decide) rfl ?_
    refine g_iconst 130 C 1 dX8_settles_129 rfl (by decide) ?_
    refine g_iadd 131 C dX8_settles_130 rfl ?_
    obtain ⟨σ23, eσ23, hF⟩ := sg_letE hF
    refine g_iast 132 C (w2 := (ww_X8 Y ad σ23)) 1 dX8_settles_131 rfl rfl (by decide) (by rw [eσ23]; rfl) ?_
    refine g_aload_n 133 C dX8_settles_132 rfl rfl rfl ?_
    refine g_iload 135 C dX8_settles_133 rfl rfl ?_
    refine g_iload 137 C dX8_settles_135 rfl rfl ?_
    refine g_icmp_ne 140 144 C dX8_settles_137 (by decide) rfl hF (fun hF => ?_) (fun hF => ?_)
    · refine g_iconst 145 C 0 dX8_settles_144 rfl (by decide) ?_
      refine g_lv (lv2 := [(0, .ref (ad 0)), (1, .int z1), (2, .int z2), (3, .int z3), (4, .int z4), (6, .int t0)]) [1, 2, 3, 4, 5, 0] rfl ?_
      exact K145 κ4 hκ4 z1 z2 z3 z4 t0 0 σ23 hF
    · refine g_iconst 141 C 1 dX8_settles_140 rfl (by decide) ?_
      refine g_goto 145 C dX8_settles_141 (by decide) ?_
      refine g_lv (lv2 := [(0, .ref (ad 0)), (1, .int z1), (2, .int z2), (3, .int z3), (4, .int z4), (6, .int t0)]) [1, 2, 3, 4, 5, 0] rfl ?_
      exact K145 κ4 hκ4 z1 z2 z3 z4 t0 1 σ23 hF
  have K4 : ∀ (nz : Nat), ∀ (z1 : Int32) (z2 : Int32) (σz : sg_S), f_X8_settles_L4 nz z1 z2 σz = some (r, σ') → sg_G p l e ({ frames := 2, cells := 0, slots := 0, locals := 51 } : Room) s m args below meth c D (va_A (ww_X8 Y ad σ) s.heap.size) 8 0 0 Q 4 [(0, .ref (ad 0)), (1, .int z1), (2, .int z2)] [] (ww_X8 Y ad σz) := by
    intro nz
    induction nz with
    | zero =>
      intro z1 z2 σz hF
      rw [f_X8_settles_L4.eq_1] at hF
      exact nomatch hF
    | succ nz ih =>
      intro z1 z2 σz hF
      rw [f_X8_settles_L4.eq_2] at hF
      refine g_iload_n 5 C dX8_settles_4 rfl rfl rfl ?_
      refine g_aload_n 6 C dX8_settles_5 rfl rfl rfl ?_
      refine g_get 9 C (own := RX8) (C1 := RX8) (T := TX8) 0 8 (.ref (ad 1)) kiX8_settles_X8 kfX8_settles_13 rfl dX8_settles_6 rfl rfl rfl (by decide) rfl ?_
      refine g_iconst 10 C 1 dX8_settles_9 rfl (by decide) ?_
      refine g_ialdc 11 C 1 (1) (σz 1 1) dX8_settles_10 rfl rfl (by decide) (by decide) rfl ?_
      refine g_icmp_ge 14 224 C dX8_settles_11 (by decide) rfl hF (fun hF => ?_) (fun hF => ?_)
      · refine g_iload_n 225 C dX8_settles_224 rfl rfl rfl ?_
        obtain ⟨e1, e2⟩ := sg_pairE hF
        exact g_iret C hr rfl hQ hsz dX8_settles_225 e1.symm (by rw [e2])
      · refine g_aload_n 15 C dX8_settles_14 rfl rfl rfl ?_
        refine g_get 18 C (own := RX8) (C1 := RX8) (T := TX8) 0 8 (.ref (ad 1)) kiX8_settles_X8 kfX8_settles_13 rfl dX8_settles_15 rfl rfl rfl (by decide) rfl ?_
        refine g_iload_n 19 C dX8_settles_18 rfl rfl rfl ?_
        refine g_iconst 20 C 2 dX8_settles_19 rfl (by decide) ?_
        obtain ⟨r1, q2, hF⟩ := sg_bndE hF
        refine g_callSi 23 C (w2 := (ww_X8 Y ad σz)) (As := [.int z2, .int 2]) (st := [.ref (ad 1)]) (n0 := 2) [] [0, 1, 2, 3, 4, 5, 6, 7, 8, 9, 10, 11, 12] [0, 1, 2, 3, 4, 5, 6, 7, 8, 9, 10, 11, 12] (c_X8_in l hZ (ad := ad) (σ := σz) q2) gX8_settles_X8_in ⟨by decide +kernel, by decide +kernel, rfl⟩ rfl ⟨Nat.le_of_ble_eq_true rfl, Nat.le_of_ble_eq_true rfl⟩ ⟨rfl, rfl, rfl, by decide, rfl, rfl⟩ rfl rfl (Nat.le_of_ble_eq_true rfl) ⟨Nat.le_refl _, Nat.le_refl _⟩ dX8_settles_20 rfl rfl ?_
        obtain ⟨h3, hF⟩ := sg_grdE hF
        refine g_ialdc 24 C 1 (r1.toNatClampNeg) (σz 1 r1.toNatClampNeg) dX8_settles_23 rfl rfl rfl h3 rfl ?_
        refine g_aload_n 25 C dX8_settles_24 rfl rfl rfl ?_
        refine g_get 28 C (own := RX8) (C1 := RX8) (T := TX8) 0 8 (.ref (ad 1)) kiX8_settles_X8 kfX8_settles_13 rfl dX8_settles_25 rfl rfl rfl (by decide) rfl ?_
        refine g_iconst 29 C 0 dX8_settles_28 rfl (by decide) ?_
        refine g_ialdc 30 C 1 (0) (σz 1 0) dX8_settles_29 rfl rfl (by decide) (by decide) rfl ?_
        refine g_icmp_eq 33 39 C dX8_settles_30 (by decide) rfl hF (fun hF => ?_) (fun hF => ?_)
        · refine g_aload_n 40 C dX8_settles_39 rfl rfl rfl ?_
          refine g_get 43 C (own := RX8) (C1 := RX8) (T := TX8) 0 8 (.ref (ad 1)) kiX8_settles_X8 kfX8_settles_13 rfl dX8_settles_40 rfl rfl rfl (by decide) rfl ?_
          refine g_iload_n 44 C dX8_settles_43 rfl rfl rfl ?_
          refine g_iconst 45 C 0 dX8_settles_44 rfl (by decide) ?_
          obtain ⟨r4, q5, hF⟩ := sg_bndE hF
          refine g_callSi 48 C (w2 := (ww_X8 Y ad σz)) (As := [.int z2, .int 0]) (st := [.ref (ad 1)]) (n0 := 2) [] [0, 1, 2, 3, 4, 5, 6, 7, 8, 9, 10, 11, 12] [0, 1, 2, 3, 4, 5, 6, 7, 8, 9, 10, 11, 12] (c_X8_in l hZ (ad := ad) (σ := σz) q5) gX8_settles_X8_in ⟨by decide +kernel, by decide +kernel, rfl⟩ rfl ⟨Nat.le_of_ble_eq_true rfl, Nat.le_of_ble_eq_true rfl⟩ ⟨rfl, rfl, rfl, by decide, rfl, rfl⟩ rfl rfl (Nat.le_of_ble_eq_true rfl) ⟨Nat.le_refl _, Nat.le_refl _⟩ dX8_settles_45 rfl rfl ?_
          obtain ⟨h6, hF⟩ := sg_grdE hF
          refine g_ialdc 49 C 1 (r4.toNatClampNeg) (σz 1 r4.toNatClampNeg) dX8_settles_48 rfl rfl rfl h6 rfl ?_
          obtain ⟨y7, ey7, hF⟩ := sg_letE hF
          refine g_top ey7 ?_
          refine g_istore_n 50 C [(3, .int y7), (0, .ref (ad 0)), (1, .int z1), (2, .int z2)] dX8_settles_49 rfl rfl (by decide) rfl ?_
          refine g_aload_n 51 C dX8_settles_50 rfl rfl rfl ?_
          refine g_get 54 C (own := RX8) (C1 := RX8) (T := TX8) 0 8 (.ref (ad 1)) kiX8_settles_X8 kfX8_settles_13 rfl dX8_settles_51 rfl rfl rfl (by decide) rfl ?_
          refine g_iload_n 55 C dX8_settles_54 rfl rfl rfl ?_
          refine g_iconst 56 C 1 dX8_settles_55 rfl (by decide) ?_
          obtain ⟨r8, q9, hF⟩ := sg_bndE hF
          refine g_callSi 59 C (w2 := (ww_X8 Y ad σz)) (As := [.int z2, .int 1]) (st := [.ref (ad 1)]) (n0 := 2) [] [0, 1, 2, 3, 4, 5, 6, 7, 8, 9, 10, 11, 12] [0, 1, 2, 3, 4, 5, 6, 7, 8, 9, 10, 11, 12] (c_X8_in l hZ (ad := ad) (σ := σz) q9) gX8_settles_X8_in ⟨by decide +kernel, by decide +kernel, rfl⟩ rfl ⟨Nat.le_of_ble_eq_true rfl, Nat.le_of_ble_eq_true rfl⟩ ⟨rfl, rfl, rfl, by decide, rfl, rfl⟩ rfl rfl (Nat.le_of_ble_eq_true rfl) ⟨Nat.le_refl _, Nat.le_refl _⟩ dX8_settles_56 rfl rfl ?_
          obtain ⟨h10, hF⟩ := sg_grdE hF
          refine g_ialdc 60 C 1 (r8.toNatClampNeg) (σz 1 r8.toNatClampNeg) dX8_settles_59 rfl rfl rfl h10 rfl ?_
          obtain ⟨y11, ey11, hF⟩ := sg_letE hF
          refine g_top ey11 ?_
          refine g_istore 62 C [(4, .int y11), (3, .int y7), (0, .ref (ad 0)), (1, .int z1), (2, .int z2)] dX8_settles_60 rfl (by decide) rfl ?_
          refine g_aload_n 63 C dX8_settles_62 rfl rfl rfl ?_
          refine g_get 66 C (own := RX8) (C1 := RX8) (T := TX8) 0 8 (.ref (ad 1)) kiX8_settles_X8 kfX8_settles_13 rfl dX8_settles_63 rfl rfl rfl (by decide) rfl ?_
          refine g_iload_n 67 C dX8_settles_66 rfl rfl rfl ?_
          refine g_iconst 68 C 0 dX8_settles_67 rfl (by decide) ?_
          obtain ⟨r12, q13, hF⟩ := sg_bndE hF
          refine g_callSi 71 C (w2 := (ww_X8 Y ad σz)) (As := [.int y7, .int 0]) (st := [.ref (ad 1)]) (n0 := 2) [] [0, 1, 2, 3, 4, 5, 6, 7, 8, 9, 10, 11, 12] [0, 1, 2, 3, 4, 5, 6, 7, 8, 9, 10, 11, 12] (c_X8_at l hZ (ad := ad) (σ := σz) q13) gX8_settles_X8_at ⟨by decide +kernel, by decide +kernel, rfl⟩ rfl ⟨Nat.le_of_ble_eq_true rfl, Nat.le_of_ble_eq_true rfl⟩ ⟨rfl, rfl, rfl, by decide, rfl, rfl⟩ rfl rfl (Nat.le_of_ble_eq_true rfl) ⟨Nat.le_refl _, Nat.le_refl _⟩ dX8_settles_68 rfl rfl ?_
          obtain ⟨h14, hF⟩ := sg_grdE hF
          refine g_ialdc 72 C 1 (r12.toNatClampNeg) (σz 1 r12.toNatClampNeg) dX8_settles_71 rfl rfl rfl h14 rfl ?_
          obtain ⟨y15, ey15, hF⟩ := sg_letE hF
          refine g_top ey15 ?_
          refine g_istore 74 C [(5, .int y15), (4, .int y11), (3, .int y7), (0, .ref (ad 0)), (1, .int z1), (2, .int z2)] dX8_settles_72 rfl (by decide) rfl ?_
          refine g_iload 76 C dX8_settles_74 rfl rfl ?_
          refine g_iload 78 C dX8_settles_76 rfl rfl ?_
          refine g_icmp_ge 81 86 C dX8_settles_78 (by decide) rfl hF (fun hF => ?_) (fun hF => ?_)
          · refine g_iload 88 C dX8_settles_86 rfl rfl ?_
            refine g_lv (lv2 := [(0, .ref (ad 0)), (1, .int z1), (2, .int z2), (3, .int y7), (4, .int y11)]) [3, 4, 5, 2, 1] rfl ?_
            exact K88 (fun z1' z2' σz' => f_X8_settles_L4 nz z1' z2' σz') ih z1 z2 y7 y11 y11 σz hF
          · refine g_iload 83 C dX8_settles_81 rfl rfl ?_
            refine g_goto 88 C dX8_settles_83 (by decide) ?_
            refine g_lv (lv2 := [(0, .ref (ad 0)), (1, .int z1), (2, .int z2), (3, .int y7), (4, .int y11)]) [3, 4, 5, 2, 1] rfl ?_
            exact K88 (fun z1' z2' σz' => f_X8_settles_L4 nz z1' z2' σz') ih z1 z2 y7 y11 y15 σz hF
        · refine g_iinc 36 C 2 (z2 + 1) [(2, .int (z2 + 1)), (0, .ref (ad 0)), (1, .int z1)] dX8_settles_33 rfl rfl rfl (by decide) rfl ?_
          refine g_goto 4 C dX8_settles_36 (by decide) ?_
          refine g_lv (lv2 := [(0, .ref (ad 0)), (1, .int z1), (2, .int (z2 + 1))]) [1, 2, 0] rfl ?_
          exact ih z1 (z2 + 1) σz hF
  rw [f_X8_settles] at hF
  refine g_iconst 1 C 0 dX8_settles_0 rfl (by decide) ?_
  refine g_istore_n 2 C [(1, .int 0), (0, .ref (ad 0))] dX8_settles_1 rfl rfl (by decide) rfl ?_
  refine g_iconst 3 C 0 dX8_settles_2 rfl (by decide) ?_
  refine g_istore_n 4 C [(2, .int 0), (1, .int 0), (0, .ref (ad 0))] dX8_settles_3 rfl rfl (by decide) rfl ?_
  refine g_lv (lv2 := [(0, .ref (ad 0)), (1, .int 0), (2, .int 0)]) [2, 1, 0] rfl ?_
  exact K4  1000 0 0 σ hF
theorem kiX8_hails_X8 : ∀ w ∈ u_ws RX8 TX8 27, w ∈ wsX8_hails := by decide +kernel
theorem kfX8_hails_13 : Cond.fieldLink RX8 13 "WeatherMinistryModel" "v" "[I" ∈ wsX8_hails := by decide +kernel
def f_X8_hails_L29 (x1 : Int32) : Nat → Int32 → sg_S → Option sg_S
  | 0, _, _ => none
  | nz + 1, z2, σz => (if 0 < z2 then sg_bnd (f_X8_at x1 2) (fun r12 => sg_grd (sg_in r12 79) ((if 0 < σz 1 r12.toNatClampNeg then sg_bnd (f_X8_at x1 2) (fun r23 => sg_grd (sg_in r23 79) (sg_let (sg_up σz 1 (r23.toNatClampNeg) ((σz 1 r23.toNatClampNeg) - 1)) (fun σ26 => sg_let (sg_up σ26 1 5 ((σ26 1 5) + 1)) (fun σ27 => f_X8_hails_L29 x1 nz (z2 + (-1)) σ27)))) else sg_bnd (f_X8_at x1 0) (fun r15 => sg_grd (sg_in r15 79) ((if 0 < σz 1 r15.toNatClampNeg then sg_bnd (f_X8_at x1 0) (fun r18 => sg_grd (sg_in r18 79) (sg_let (sg_up σz 1 (r18.toNatClampNeg) ((σz 1 r18.toNatClampNeg) - 1)) (fun σ21 => sg_let (sg_up σ21 1 4 ((σ21 1 4) + 1)) (fun σ22 => f_X8_hails_L29 x1 nz (z2 + (-1)) σ22)))) else f_X8_hails_L29 x1 nz (z2 + (-1)) σz)))))) else sg_bnd (f_X8_at x1 3) (fun r8 => sg_grd (sg_in r8 79) (sg_let (sg_up σz 1 (r8.toNatClampNeg) ((σz 1 r8.toNatClampNeg) - 1)) (fun σ11 => some σ11))))
def f_X8_hails (x1 : Int32) (σ : sg_S) : Option sg_S := sg_bnd (f_X8_at x1 3) (fun r1 => sg_grd (sg_in r1 79) ((if σ 1 r1.toNatClampNeg = 0 then some σ else sg_bnd (f_X8_at x1 3) (fun r4 => sg_grd (sg_in r4 79) (sg_let (((σ 1 r4.toNatClampNeg) + 4) / 5) (fun y7 => f_X8_hails_L29 x1 1000 y7 σ))))))
set_option maxHeartbeats 4000000 in
set_option maxRecDepth 100000 in
theorem c_X8_hails (l : Launch) {D : va_G} {Y : Nat → ClassId} {Z : (Nat → Prop) → State → Heap → Prop} (hZ : sg_Zok Z) {ad : Nat → Nat} {σ : sg_S} {σ' : sg_S} {x1 : Int32} (hF : f_X8_hails x1 σ = some σ') : sg_MV l yX8_hails wsX8_hails 1 21 D Y Z [.ref (ad 0), .int x1] (ww_X8 Y ad σ) (ww_X8 Y ad σ') := by
  intro sz
  refine sg_enter (own := RX8) (maxL := 3) (ret := none) (cc := cX8_hails) (by decide +kernel) rfl rfl (Nat.le_of_ble_eq_true rfl) hZ ?_
  intro p e s m args below meth c C hr Q hQ hsz
  refine g_lv (lv2 := [(0, .ref (ad 0)), (1, .int x1)]) [0, 1] rfl ?_
  have K29 : ∀ (nz : Nat), ∀ (z2 : Int32) (σz : sg_S), f_X8_hails_L29 x1 nz z2 σz = some σ' → sg_G p l e ({ frames := 1, cells := 0, slots := 0, locals := 21 } : Room) s m args below meth c D (va_A (ww_X8 Y ad σ) s.heap.size) 3 0 0 Q 29 [(0, .ref (ad 0)), (1, .int x1), (2, .int z2)] [] (ww_X8 Y ad σz) := by
    intro nz
    induction nz with
    | zero =>
      intro z2 σz hF
      rw [f_X8_hails_L29.eq_1] at hF
      exact nomatch hF
    | succ nz ih =>
      intro z2 σz hF
      rw [f_X8_hails_L29.eq_2] at hF
      refine g_iload_n 30 C dX8_hails_29 rfl rfl rfl ?_
      refine g_if_le 33 116 C dX8_hails_30 (by decide) rfl hF (fun hF => ?_) (fun hF => ?_)
      · refine g_aload_n 117 C dX8_hails_116 rfl rfl rfl ?_
        refine g_get 120 C (own := RX8) (C1 := RX8) (T := TX8) 0 8 (.ref (ad 1)) kiX8_hails_X8 kfX8_hails_13 rfl dX8_hails_117 rfl rfl rfl (by decide) rfl ?_
        refine g_iload_n 121 C dX8_hails_120 rfl rfl rfl ?_
        refine g_iconst 122 C 3 dX8_hails_121 rfl (by decide) ?_
        obtain ⟨r8, q9, hF⟩ := sg_bndE hF
        refine g_callSi 125 C (w2 := (ww_X8 Y ad σz)) (As := [.int x1, .int 3]) (st := [.ref (ad 1)]) (n0 := 2) [] [0, 1, 2, 3, 4, 5, 6, 7, 8, 9, 10, 11, 12] [0, 1, 2, 3, 4, 5, 6, 7, 8, 9, 10, 11, 12] (c_X8_at l hZ (ad := ad) (σ := σz) q9) gX8_hails_X8_at ⟨by decide +kernel, by decide +kernel, rfl⟩ rfl ⟨Nat.le_of_ble_eq_true rfl, Nat.le_of_ble_eq_true rfl⟩ ⟨rfl, rfl, rfl, by decide, rfl, rfl⟩ rfl rfl (Nat.le_of_ble_eq_true rfl) ⟨Nat.le_refl _, Nat.le_refl _⟩ dX8_hails_122 rfl rfl ?_
        refine g_dup2 126 C dX8_hails_125 rfl rfl rfl ?_
        obtain ⟨h10, hF⟩ := sg_grdE hF
        refine g_ialdc 127 C 1 (r8.toNatClampNeg) (σz 1 r8.toNatClampNeg) dX8_hails_126 rfl rfl rfl h10 rfl ?_
        refine g_iconst 128 C 1 dX8_hails_127 rfl (by decide) ?_
        refine g_isub 129 C dX8_hails_128 rfl ?_
        obtain ⟨σ11, eσ11, hF⟩ := sg_letE hF
        refine g_iast 130 C (w2 := (ww_X8 Y ad σ11)) 1 dX8_hails_129 rfl rfl h10 (by rw [eσ11]; rfl) ?_
        have e2 := sg_someE hF
        exact g_vret C hr hQ hsz dX8_hails_130 (by rw [e2])
      · refine g_aload_n 34 C dX8_hails_33 rfl rfl rfl ?_
        refine g_get 37 C (own := RX8) (C1 := RX8) (T := TX8) 0 8 (.ref (ad 1)) kiX8_hails_X8 kfX8_hails_13 rfl dX8_hails_34 rfl rfl rfl (by decide) rfl ?_
        refine g_iload_n 38 C dX8_hails_37 rfl rfl rfl ?_
        refine g_iconst 39 C 2 dX8_hails_38 rfl (by decide) ?_
        obtain ⟨r12, q13, hF⟩ := sg_bndE hF
        refine g_callSi 42 C (w2 := (ww_X8 Y ad σz)) (As := [.int x1, .int 2]) (st := [.ref (ad 1)]) (n0 := 2) [] [0, 1, 2, 3, 4, 5, 6, 7, 8, 9, 10, 11, 12] [0, 1, 2, 3, 4, 5, 6, 7, 8, 9, 10, 11, 12] (c_X8_at l hZ (ad := ad) (σ := σz) q13) gX8_hails_X8_at ⟨by decide +kernel, by decide +kernel, rfl⟩ rfl ⟨Nat.le_of_ble_eq_true rfl, Nat.le_of_ble_eq_true rfl⟩ ⟨rfl, rfl, rfl, by decide, rfl, rfl⟩ rfl rfl (Nat.le_of_ble_eq_true rfl) ⟨Nat.le_refl _, Nat.le_refl _⟩ dX8_hails_39 rfl rfl ?_
        obtain ⟨h14, hF⟩ := sg_grdE hF
        refine g_ialdc 43 C 1 (r12.toNatClampNeg) (σz 1 r12.toNatClampNeg) dX8_hails_42 rfl rfl rfl h14 rfl ?_
        refine g_if_le 46 73 C dX8_hails_43 (by decide) rfl hF (fun hF => ?_) (fun hF => ?_)
        · refine g_aload_n 74 C dX8_hails_73 rfl rfl rfl ?_
          refine g_get 77 C (own := RX8) (C1 := RX8) (T := TX8) 0 8 (.ref (ad 1)) kiX8_hails_X8 kfX8_hails_13 rfl dX8_hails_74 rfl rfl rfl (by decide) rfl ?_
          refine g_iload_n 78 C dX8_hails_77 rfl rfl rfl ?_
          refine g_iconst 79 C 0 dX8_hails_78 rfl (by decide) ?_
          obtain ⟨r15, q16, hF⟩ := sg_bndE hF
          refine g_callSi 82 C (w2 := (ww_X8 Y ad σz)) (As := [.int x1, .int 0]) (st := [.ref (ad 1)]) (n0 := 2) [] [0, 1, 2, 3, 4, 5, 6, 7, 8, 9, 10, 11, 12] [0, 1, 2, 3, 4, 5, 6, 7, 8, 9, 10, 11, 12] (c_X8_at l hZ (ad := ad) (σ := σz) q16) gX8_hails_X8_at ⟨by decide +kernel, by decide +kernel, rfl⟩ rfl ⟨Nat.le_of_ble_eq_true rfl, Nat.le_of_ble_eq_true rfl⟩ ⟨rfl, rfl, rfl, by decide, rfl, rfl⟩ rfl rfl (Nat.le_of_ble_eq_true rfl) ⟨Nat.le_refl _, Nat.le_refl _⟩ dX8_hails_79 rfl rfl ?_
          obtain ⟨h17, hF⟩ := sg_grdE hF
          refine g_ialdc 83 C 1 (r15.toNatClampNeg) (σz 1 r15.toNatClampNeg) dX8_hails_82 rfl rfl rfl h17 rfl ?_
          refine g_if_le 86 110 C dX8_hails_83 (by decide) rfl hF (fun hF => ?_) (fun hF => ?_)
          · refine g_iinc 113 C 2 (z2 + (-1)) [(2, .int (z2 + (-1))), (0, .ref (ad 0)), (1, .int x1)] dX8_hails_110 rfl rfl rfl (by decide) rfl ?_
            refine g_goto 29 C dX8_hails_113 (by decide) ?_
            refine g_lv (lv2 := [(0, .ref (ad 0)), (1, .int x1), (2, .int (z2 + (-1)))]) [1, 2, 0] rfl ?_
            exact ih (z2 + (-1)) σz hF
          · refine g_aload_n 87 C dX8_hails_86 rfl rfl rfl ?_
            refine g_get 90 C (own := RX8) (C1 := RX8) (T := TX8) 0 8 (.ref (ad 1)) kiX8_hails_X8 kfX8_hails_13 rfl dX8_hails_87 rfl rfl rfl (by decide) rfl ?_
            refine g_iload_n 91 C dX8_hails_90 rfl rfl rfl ?_
            refine g_iconst 92 C 0 dX8_hails_91 rfl (by decide) ?_
            obtain ⟨r18, q19, hF⟩ := sg_bndE hF
            refine g_callSi 95 C (w2 := (ww_X8 Y ad σz)) (As := [.int x1, .int 0]) (st := [.ref (ad 1)]) (n0 := 2) [] [0, 1, 2, 3, 4, 5, 6, 7, 8, 9, 10, 11, 12] [0, 1, 2, 3, 4, 5, 6, 7, 8, 9, 10, 11, 12] (c_X8_at l hZ (ad := ad) (σ := σz) q19) gX8_hails_X8_at ⟨by decide +kernel, by decide +kernel, rfl⟩ rfl ⟨Nat.le_of_ble_eq_true rfl, Nat.le_of_ble_eq_true rfl⟩ ⟨rfl, rfl, rfl, by decide, rfl, rfl⟩ rfl rfl (Nat.le_of_ble_eq_true rfl) ⟨Nat.le_refl _, Nat.le_refl _⟩ dX8_hails_92 rfl rfl ?_
            refine g_dup2 96 C dX8_hails_95 rfl rfl rfl ?_
            obtain ⟨h20, hF⟩ := sg_grdE hF
            refine g_ialdc 97 C 1 (r18.toNatClampNeg) (σz 1 r18.toNatClampNeg) dX8_hails_96 rfl rfl rfl h20 rfl ?_
            refine g_iconst 98 C 1 dX8_hails_97 rfl (by decide) ?_
            refine g_isub 99 C dX8_hails_98 rfl ?_
            obtain ⟨σ21, eσ21, hF⟩ := sg_letE hF
            refine g_iast 100 C (w2 := (ww_X8 Y ad σ21)) 1 dX8_hails_99 rfl rfl h20 (by rw [eσ21]; rfl) ?_
            refine g_aload_n 101 C dX8_hails_100 rfl rfl rfl ?_
            refine g_get 104 C (own := RX8) (C1 := RX8) (T := TX8) 0 8 (.ref (ad 1)) kiX8_hails_X8 kfX8_hails_13 rfl dX8_hails_101 rfl rfl rfl (by decide) rfl ?_
            refine g_iconst 105 C 4 dX8_hails_104 rfl (by decide) ?_
            refine g_dup2 106 C dX8_hails_105 rfl rfl rfl ?_
            refine g_ialdc 107 C 1 (4) (σ21 1 4) dX8_hails_106 rfl rfl (by decide) (by decide) rfl ?_
            refine g_iconst 108 C 1 dX8_hails_107 rfl (by decide) ?_
            refine g_iadd 109 C dX8_hails_108 rfl ?_
            obtain ⟨σ22, eσ22, hF⟩ := sg_letE hF
            refine g_iast 110 C (w2 := (ww_X8 Y ad σ22)) 1 dX8_hails_109 rfl rfl (by decide) (by rw [eσ22]; rfl) ?_
            refine g_iinc 113 C 2 (z2 + (-1)) [(2, .int (z2 + (-1))), (0, .ref (ad 0)), (1, .int x1)] dX8_hails_110 rfl rfl rfl (by decide) rfl ?_
            refine g_goto 29 C dX8_hails_113 (by decide) ?_
            refine g_lv (lv2 := [(0, .ref (ad 0)), (1, .int x1), (2, .int (z2 + (-1)))]) [1, 2, 0] rfl ?_
            exact ih (z2 + (-1)) σ22 hF
        · refine g_aload_n 47 C dX8_hails_46 rfl rfl rfl ?_
          refine g_get 50 C (own := RX8) (C1 := RX8) (T := TX8) 0 8 (.ref (ad 1)) kiX8_hails_X8 kfX8_hails_13 rfl dX8_hails_47 rfl rfl rfl (by decide) rfl ?_
          refine g_iload_n 51 C dX8_hails_50 rfl rfl rfl ?_
          refine g_iconst 52 C 2 dX8_hails_51 rfl (by decide) ?_
          obtain ⟨r23, q24, hF⟩ := sg_bndE hF
          refine g_callSi 55 C (w2 := (ww_X8 Y ad σz)) (As := [.int x1, .int 2]) (st := [.ref (ad 1)]) (n0 := 2) [] [0, 1, 2, 3, 4, 5, 6, 7, 8, 9, 10, 11, 12] [0, 1, 2, 3, 4, 5, 6, 7, 8, 9, 10, 11, 12] (c_X8_at l hZ (ad := ad) (σ := σz) q24) gX8_hails_X8_at ⟨by decide +kernel, by decide +kernel, rfl⟩ rfl ⟨Nat.le_of_ble_eq_true rfl, Nat.le_of_ble_eq_true rfl⟩ ⟨rfl, rfl, rfl, by decide, rfl, rfl⟩ rfl rfl (Nat.le_of_ble_eq_true rfl) ⟨Nat.le_refl _, Nat.le_refl _⟩ dX8_hails_52 rfl rfl ?_
          refine g_dup2 56 C dX8_hails_55 rfl rfl rfl ?_
          obtain ⟨h25, hF⟩ := sg_grdE hF
          refine g_ialdc 57 C 1 (r23.toNatClampNeg) (σz 1 r23.toNatClampNeg) dX8_hails_56 rfl rfl rfl h25 rfl ?_
          refine g_iconst 58 C 1 dX8_hails_57 rfl (by decide) ?_
          refine g_isub 59 C dX8_hails_58 rfl ?_
          obtain ⟨σ26, eσ26, hF⟩ := sg_letE hF
          refine g_iast 60 C (w2 := (ww_X8 Y ad σ26)) 1 dX8_hails_59 rfl rfl h25 (by rw [eσ26]; rfl) ?_
          refine g_aload_n 61 C dX8_hails_60 rfl rfl rfl ?_
          refine g_get 64 C (own := RX8) (C1 := RX8) (T := TX8) 0 8 (.ref (ad 1)) kiX8_hails_X8 kfX8_hails_13 rfl dX8_hails_61 rfl rfl rfl (by decide) rfl ?_
          refine g_iconst 65 C 5 dX8_hails_64 rfl (by decide) ?_
          refine g_dup2 66 C dX8_hails_65 rfl rfl rfl ?_
          refine g_ialdc 67 C 1 (5) (σ26 1 5) dX8_hails_66 rfl rfl (by decide) (by decide) rfl ?_
          refine g_iconst 68 C 1 dX8_hails_67 rfl (by decide) ?_
          refine g_iadd 69 C dX8_hails_68 rfl ?_
          obtain ⟨σ27, eσ27, hF⟩ := sg_letE hF
          refine g_iast 70 C (w2 := (ww_X8 Y ad σ27)) 1 dX8_hails_69 rfl rfl (by decide) (by rw [eσ27]; rfl) ?_
          refine g_goto 110 C dX8_hails_70 (by decide) ?_
          refine g_iinc 113 C 2 (z2 + (-1)) [(2, .int (z2 + (-1))), (0, .ref (ad 0)), (1, .int x1)] dX8_hails_110 rfl rfl rfl (by decide) rfl ?_
          refine g_goto 29 C dX8_hails_113 (by decide) ?_
          refine g_lv (lv2 := [(0, .ref (ad 0)), (1, .int x1), (2, .int (z2 + (-1)))]) [1, 2, 0] rfl ?_
          exact ih (z2 + (-1)) σ27 hF
  rw [f_X8_hails] at hF
  refine g_aload_n 1 C dX8_hails_0 rfl rfl rfl ?_
  refine g_get 4 C (own := RX8) (C1 := RX8) (T := TX8) 0 8 (.ref (ad 1)) kiX8_hails_X8 kfX8_hails_13 rfl dX8_hails_1 rfl rfl rfl (by decide) rfl ?_
  refine g_iload_n 5 C dX8_hails_4 rfl rfl rfl ?_
  refine g_iconst 6 C 3 dX8_hails_5 rfl (by decide) ?_
  obtain ⟨r1, q2, hF⟩ := sg_bndE hF
  refine g_callSi 9 C (w2 := (ww_X8 Y ad σ)) (As := [.int x1, .int 3]) (st := [.ref (ad 1)]) (n0 := 2) [] [0, 1, 2, 3, 4, 5, 6, 7, 8, 9, 10, 11, 12] [0, 1, 2, 3, 4, 5, 6, 7, 8, 9, 10, 11, 12] (c_X8_at l hZ (ad := ad) (σ := σ) q2) gX8_hails_X8_at ⟨by decide +kernel, by decide +kernel, rfl⟩ rfl ⟨Nat.le_of_ble_eq_true rfl, Nat.le_of_ble_eq_true rfl⟩ ⟨rfl, rfl, rfl, by decide, rfl, rfl⟩ rfl rfl (Nat.le_of_ble_eq_true rfl) ⟨Nat.le_refl _, Nat.le_refl _⟩ dX8_hails_6 rfl rfl ?_
  obtain ⟨h3, hF⟩ := sg_grdE hF
  refine g_ialdc 10 C 1 (r1.toNatClampNeg) (σ 1 r1.toNatClampNeg) dX8_hails_9 rfl rfl rfl h3 rfl ?_
  refine g_if_ne 13 14 C dX8_hails_10 (by decide) rfl hF (fun hF => ?_) (fun hF => ?_)
  · refine g_aload_n 15 C dX8_hails_14 rfl rfl rfl ?_
    refine g_get 18 C (own := RX8) (C1 := RX8) (T := TX8) 0 8 (.ref (ad 1)) kiX8_hails_X8 kfX8_hails_13 rfl dX8_hails_15 rfl rfl rfl (by decide) rfl ?_
    refine g_iload_n 19 C dX8_hails_18 rfl rfl rfl ?_
    refine g_iconst 20 C 3 dX8_hails_19 rfl (by decide) ?_
    obtain ⟨r4, q5, hF⟩ := sg_bndE hF
    refine g_callSi 23 C (w2 := (ww_X8 Y ad σ)) (As := [.int x1, .int 3]) (st := [.ref (ad 1)]) (n0 := 2) [] [0, 1, 2, 3, 4, 5, 6, 7, 8, 9, 10, 11, 12] [0, 1, 2, 3, 4, 5, 6, 7, 8, 9, 10, 11, 12] (c_X8_at l hZ (ad := ad) (σ := σ) q5) gX8_hails_X8_at ⟨by decide +kernel, by decide +kernel, rfl⟩ rfl ⟨Nat.le_of_ble_eq_true rfl, Nat.le_of_ble_eq_true rfl⟩ ⟨rfl, rfl, rfl, by decide, rfl, rfl⟩ rfl rfl (Nat.le_of_ble_eq_true rfl) ⟨Nat.le_refl _, Nat.le_refl _⟩ dX8_hails_20 rfl rfl ?_
    obtain ⟨h6, hF⟩ := sg_grdE hF
    refine g_ialdc 24 C 1 (r4.toNatClampNeg) (σ 1 r4.toNatClampNeg) dX8_hails_23 rfl rfl rfl h6 rfl ?_
    refine g_iconst 25 C 4 dX8_hails_24 rfl (by decide) ?_
    refine g_iadd 26 C dX8_hails_25 rfl ?_
    refine g_iconst 27 C 5 dX8_hails_26 rfl (by decide) ?_
    refine g_idivc 28 C dX8_hails_27 rfl (by decide) ?_
    obtain ⟨y7, ey7, hF⟩ := sg_letE hF
    refine g_top ey7 ?_
    refine g_istore_n 29 C [(2, .int y7), (0, .ref (ad 0)), (1, .int x1)] dX8_hails_28 rfl rfl (by decide) rfl ?_
    refine g_lv (lv2 := [(0, .ref (ad 0)), (1, .int x1), (2, .int y7)]) [1, 2, 0] rfl ?_
    exact K29  1000 y7 σ hF
  · have e2 := sg_someE hF
    exact g_vret C hr hQ hsz dX8_hails_13 (by rw [e2])
theorem kiX8_months_X8 : ∀ w ∈ u_ws RX8 TX8 27, w ∈ wsX8_months := by decide +kernel
theorem kfX8_months_13 : Cond.fieldLink RX8 13 "WeatherMinistryModel" "v" "[I" ∈ wsX8_months := by decide +kernel
theorem kfX8_months_29 : Cond.fieldLink RX8 29 "WeatherMinistryModel" "sunOf" "[I" ∈ wsX8_months := by decide +kernel
def f_X8_months_J114 (κ35 : Int32 → Int32 → sg_S → Option (Int32 × sg_S)) (z1 : Int32) (z2 : Int32) (t0 : Int32) (t1 : Int32) (t2 : Int32) (σz : sg_S) : Option (Int32 × sg_S) := sg_grd (sg_in t2 79) (sg_let (sg_up σz 1 (t2.toNatClampNeg) (t1 + t0)) (fun σ17 => sg_bnd (f_X8_at z2 1) (fun r18 => sg_bnd (f_X8_at z2 1) (fun r20 => sg_grd (sg_in r20 79) ((if 3 < σ17 1 r20.toNatClampNeg then sg_bnd (f_X8_at z2 1) (fun r25 => sg_grd (sg_in r25 79) (sg_grd (sg_in r18 79) (sg_let (sg_up σ17 1 (r18.toNatClampNeg) ((σ17 1 r25.toNatClampNeg) - 3)) (fun σ29 => κ35 z1 (z2 + 1) σ29)))) else sg_grd (sg_in r18 79) (sg_let (sg_up σ17 1 (r18.toNatClampNeg) 0) (fun σ24 => κ35 z1 (z2 + 1) σ24))))))))
def f_X8_months_J93 (κ35 : Int32 → Int32 → sg_S → Option (Int32 × sg_S)) (z1 : Int32) (z2 : Int32) (z3 : Int32) (z4 : Int32) (t0 : Int32) (t1 : Int32) (t2 : Int32) (σz : sg_S) : Option (Int32 × sg_S) := sg_grd (sg_in t2 79) (sg_let (sg_up σz 1 (t2.toNatClampNeg) (t1 + t0)) (fun σ15 => (if z3 < z4 then f_X8_months_J114 κ35 z1 z2 z3 (σ15 1 2) 2 σ15 else f_X8_months_J114 κ35 z1 z2 z4 (σ15 1 2) 2 σ15)))
def f_X8_months_L35 : Nat → Int32 → Int32 → sg_S → Option (Int32 × sg_S)
  | 0, _, _, _ => none
  | nz + 1, z1, z2, σz => (if z2 < 5 then sg_grd (sg_in ((σz 1 0) - (σz 1 0) / 12 * 12) 12) (sg_let (σz 6 ((σz 1 0) - (σz 1 0) / 12 * 12).toNatClampNeg) (fun y6 => sg_bnd (f_X8_at z2 0) (fun r7 => sg_grd (sg_in r7 79) (sg_let (60 - (σz 1 r7.toNatClampNeg)) (fun y10 => sg_bnd (f_X8_at z2 0) (fun r11 => sg_grd (sg_in r11 79) ((if y6 < y10 then f_X8_months_J93 (fun z1' z2' σz' => f_X8_months_L35 nz z1' z2' σz') z1 z2 y6 y10 y6 (σz 1 r11.toNatClampNeg) r11 σz else f_X8_months_J93 (fun z1' z2' σz' => f_X8_months_L35 nz z1' z2' σz') z1 z2 y6 y10 y10 (σz 1 r11.toNatClampNeg) r11 σz)))))))) else some (z1, σz))
def f_X8_months_L17 : Nat → Int32 → Int32 → sg_S → Option (Int32 × sg_S)
  | 0, _, _, _ => none
  | nz + 1, z1, z2, σz => (if z2 < 5 then sg_bnd (f_X8_hails z2 σz) (fun τ30 => f_X8_months_L17 nz z1 (z2 + 1) τ30) else f_X8_months_L35 1000 z1 0 σz)
def f_X8_months  (σ : sg_S) : Option (Int32 × sg_S) := sg_let (sg_up σ 1 0 ((σ 1 0) + 1)) (fun σ1 => sg_bnd2 (f_X8_settles  σ1) (fun r4 τ2 => f_X8_months_L17 1000 r4 0 τ2))
set_option maxHeartbeats 4000000 in
set_option maxRecDepth 100000 in
theorem c_X8_months (l : Launch) {D : va_G} {Y : Nat → ClassId} {Z : (Nat → Prop) → State → Heap → Prop} (hZ : sg_Zok Z) {ad : Nat → Nat} {σ : sg_S} {σ' : sg_S} {r : Int32} (hF : f_X8_months  σ = some (r, σ')) : sg_MI l yX8_months wsX8_months 3 78 D Y Z [.ref (ad 0)] (ww_X8 Y ad σ) r (ww_X8 Y ad σ') := by
  intro sz
  refine sg_enter (own := RX8) (maxL := 5) (ret := (some .int)) (cc := cX8_months) (by decide +kernel) rfl rfl (Nat.le_of_ble_eq_true rfl) hZ ?_
  intro p e s m args below meth c C hr Q hQ hsz
  refine g_lv (lv2 := [(0, .ref (ad 0))]) [0] rfl ?_
  have K114 : ∀ (κ35 : Int32 → Int32 → sg_S → Option (Int32 × sg_S)), (∀ (z1 : Int32) (z2 : Int32) (σz : sg_S), κ35 z1 z2 σz = some (r, σ') → sg_G p l e ({ frames := 3, cells := 0, slots := 0, locals := 78 } : Room) s m args below meth c D (va_A (ww_X8 Y ad σ) s.heap.size) 5 0 0 Q 35 [(0, .ref (ad 0)), (1, .int z1), (2, .int z2)] [] (ww_X8 Y ad σz)) → ∀ (z1 : Int32) (z2 : Int32) (t0 : Int32) (t1 : Int32) (t2 : Int32) (σz : sg_S), f_X8_months_J114 κ35 z1 z2 t0 t1 t2 σz = some (r, σ') → sg_G p l e ({ frames := 3, cells := 0, slots := 0, locals := 78 } : Room) s m args below meth c D (va_A (ww_X8 Y ad σ) s.heap.size) 5 0 0 Q 114 [(0, .ref (ad 0)), (1, .int z1), (2, .int z2)] [.int t0, .int t1, .int t2, .ref (ad 1)] (ww_X8 Y ad σz) := by
    intro κ35 hκ35 z1 z2 t0 t1 t2 σz hF
    rw [f_X8_months_J114] at hF
    refine g_iadd 115 C dX8_months_114 rfl ?_
    obtain ⟨h16, hF⟩ := sg_grdE hF
    obtain ⟨σ17, eσ17, hF⟩ := sg_letE hF
    refine g_iast 116 C (w2 := (ww_X8 Y ad σ17)) 1 dX8_months_115 rfl rfl h16 (by rw [eσ17]; rfl) ?_
    refine g_aload_n 117 C dX8_months_116 rfl rfl rfl ?_
    refine g_get 120 C (own := RX8) (C1 := RX8) (T := TX8) 0 8 (.ref (ad 1)) kiX8_months_X8 kfX8_months_13 rfl dX8_months_117 rfl rfl rfl (by decide) rfl ?_
    refine g_iload_n 121 C dX8_months_120 rfl rfl rfl ?_
    refine g_iconst 122 C 1 dX8_months_121 rfl (by decide) ?_
    obtain ⟨r18, q19, hF⟩ := sg_bndE hF
    refine g_callSi 125 C (w2 := (ww_X8 Y ad σ17)) (As := [.int z2, .int 1]) (st := [.ref (ad 1)]) (n0 := 2) [] [0, 1, 2, 3, 4, 5, 6, 7, 8, 9, 10, 11, 12] [0, 1, 2, 3, 4, 5, 6, 7, 8, 9, 10, 11, 12] (c_X8_at l hZ (ad := ad) (σ := σ17) q19) gX8_months_X8_at ⟨by decide +kernel, by decide +kernel, rfl⟩ rfl ⟨Nat.le_of_ble_eq_true rfl, Nat.le_of_ble_eq_true rfl⟩ ⟨rfl, rfl, rfl, by decide, rfl, rfl⟩ rfl rfl (Nat.le_of_ble_eq_true rfl) ⟨Nat.le_refl _, Nat.le_refl _⟩ dX8_months_122 rfl rfl ?_
    refine g_aload_n 126 C dX8_months_125 rfl rfl rfl ?_
    refine g_get 129 C (own := RX8) (C1 := RX8) (T := TX8) 0 8 (.ref (ad 1)) kiX8_months_X8 kfX8_months_13 rfl dX8_months_126 rfl rfl rfl (by decide) rfl ?_
    refine g_iload_n 130 C dX8_months_129 rfl rfl rfl ?_
    refine g_iconst 131 C 1 dX8_months_130 rfl (by decide) ?_
    obtain ⟨r20, q21, hF⟩ := sg_bndE hF
    refine g_callSi 134 C (w2 := (ww_X8 Y ad σ17)) (As := [.int z2, .int 1]) (st := [.ref (ad 1), .int r18, .ref (ad 1)]) (n0 := 2) [] [0, 1, 2, 3, 4, 5, 6, 7, 8, 9, 10, 11, 12] [0, 1, 2, 3, 4, 5, 6, 7, 8, 9, 10, 11, 12] (c_X8_at l hZ (ad := ad) (σ := σ17) q21) gX8_months_X8_at ⟨by decide +kernel, by decide +kernel, rfl⟩ rfl ⟨Nat.le_of_ble_eq_true rfl, Nat.le_of_ble_eq_true rfl⟩ ⟨rfl, rfl, rfl, by decide, rfl, rfl⟩ rfl rfl (Nat.le_of_ble_eq_true rfl) ⟨Nat.le_refl _, Nat.le_refl _⟩ dX8_months_131 rfl rfl ?_
    obtain ⟨h22, hF⟩ := sg_grdE hF
    refine g_ialdc 135 C 1 (r20.toNatClampNeg) (σ17 1 r20.toNatClampNeg) dX8_months_134 rfl rfl rfl h22 rfl ?_
    refine g_iconst 136 C 3 dX8_months_135 rfl (by decide) ?_
    refine g_icmp_le 139 154 C dX8_months_136 (by decide) rfl hF (fun hF => ?_) (fun hF => ?_)
    · refine g_iconst 155 C 0 dX8_months_154 rfl (by decide) ?_
      obtain ⟨h23, hF⟩ := sg_grdE hF
      obtain ⟨σ24, eσ24, hF⟩ := sg_letE hF
      refine g_iast 156 C (w2 := (ww_X8 Y ad σ24)) 1 dX8_months_155 rfl rfl h23 (by rw [eσ24]; rfl) ?_
      refine g_iinc 159 C 2 (z2 + 1) [(2, .int (z2 + 1)), (0, .ref (ad 0)), (1, .int z1)] dX8_months_156 rfl rfl rfl (by decide) rfl ?_
      refine g_goto 35 C dX8_months_159 (by decide) ?_
      refine g_lv (lv2 := [(0, .ref (ad 0)), (1, .int z1), (2, .int (z2 + 1))]) [1, 2, 0] rfl ?_
      exact hκ35 z1 (z2 + 1) σ24 hF
    · refine g_aload_n 140 C dX8_months_139 rfl rfl rfl ?_
      refine g_get 143 C (own := RX8) (C1 := RX8) (T := TX8) 0 8 (.ref (ad 1)) kiX8_months_X8 kfX8_months_13 rfl dX8_months_140 rfl rfl rfl (by decide) rfl ?_
      refine g_iload_n 144 C dX8_months_143 rfl rfl rfl ?_
      refine g_iconst 145 C 1 dX8_months_144 rfl (by decide) ?_
      obtain ⟨r25, q26, hF⟩ := sg_bndE hF
      refine g_callSi 148 C (w2 := (ww_X8 Y ad σ17)) (As := [.int z2, .int 1]) (st := [.ref (ad 1), .int r18, .ref (ad 1)]) (n0 := 2) [] [0, 1, 2, 3, 4, 5, 6, 7, 8, 9, 10, 11, 12] [0, 1, 2, 3, 4, 5, 6, 7, 8, 9, 10, 11, 12] (c_X8_at l hZ (ad := ad) (σ := σ17) q26) gX8_months_X8_at ⟨by decide +kernel, by decide +kernel, rfl⟩ rfl ⟨Nat.le_of_ble_eq_true rfl, Nat.le_of_ble_eq_true rfl⟩ ⟨rfl, rfl, rfl, by decide, rfl, rfl⟩ rfl rfl (Nat.le_of_ble_eq_true rfl) ⟨Nat.le_refl _, Nat.le_refl _⟩ dX8_months_145 rfl rfl ?_
      obtain ⟨h27, hF⟩ := sg_grdE hF
      refine g_ialdc 149 C 1 (r25.toNatClampNeg) (σ17 1 r25.toNatClampNeg) dX8_months_148 rfl rfl rfl h27 rfl ?_
      refine g_iconst 150 C 3 dX8_months_149 rfl (by decide) ?_
      refine g_isub 151 C dX8_months_150 rfl ?_
      refine g_goto 155 C dX8_months_151 (by decide) ?_
      obtain ⟨h28, hF⟩ := sg_grdE hF
      obtain ⟨σ29, eσ29, hF⟩ := sg_letE hF
      refine g_iast 156 C (w2 := (ww_X8 Y ad σ29)) 1 dX8_months_155 rfl rfl h28 (by rw [eσ29]; rfl) ?_
      refine g_iinc 159 C 2 (z2 + 1) [(2, .int (z2 + 1)), (0, .ref (ad 0)), (1, .int z1)] dX8_months_156 rfl rfl rfl (by decide) rfl ?_
      refine g_goto 35 C dX8_months_159 (by decide) ?_
      refine g_lv (lv2 := [(0, .ref (ad 0)), (1, .int z1), (2, .int (z2 + 1))]) [1, 2, 0] rfl ?_
      exact hκ35 z1 (z2 + 1) σ29 hF
  have K93 : ∀ (κ35 : Int32 → Int32 → sg_S → Option (Int32 × sg_S)), (∀ (z1 : Int32) (z2 : Int32) (σz : sg_S), κ35 z1 z2 σz = some (r, σ') → sg_G p l e ({ frames := 3, cells := 0, slots := 0, locals := 78 } : Room) s m args below meth c D (va_A (ww_X8 Y ad σ) s.heap.size) 5 0 0 Q 35 [(0, .ref (ad 0)), (1, .int z1), (2, .int z2)] [] (ww_X8 Y ad σz)) → ∀ (z1 : Int32) (z2 : Int32) (z3 : Int32) (z4 : Int32) (t0 : Int32) (t1 : Int32) (t2 : Int32) (σz : sg_S), f_X8_months_J93 κ35 z1 z2 z3 z4 t0 t1 t2 σz = some (r, σ') → sg_G p l e ({ frames := 3, cells := 0, slots := 0, locals := 78 } : Room) s m args below meth c D (va_A (ww_X8 Y ad σ) s.heap.size) 5 0 0 Q 93 [(0, .ref (ad 0)), (1, .int z1), (2, .int z2), (3, .int z3), (4, .int z4)] [.int t0, .int t1, .int t2, .ref (ad 1)] (ww_X8 Y ad σz) := by
    intro κ35 hκ35 z1 z2 z3 z4 t0 t1 t2 σz hF
    rw [f_X8_months_J93] at hF
    refine g_iadd 94 C dX8_months_93 rfl ?_
    obtain ⟨h14, hF⟩ := sg_grdE hF
    obtain ⟨σ15, eσ15, hF⟩ := sg_letE hF
    refine g_iast 95 C (w2 := (ww_X8 Y ad σ15)) 1 dX8_months_94 rfl rfl h14 (by rw [eσ15]; rfl) ?_
    refine g_aload_n 96 C dX8_months_95 rfl rfl rfl ?_
    refine g_get 99 C (own := RX8) (C1 := RX8) (T := TX8) 0 8 (.ref (ad 1)) kiX8_months_X8 kfX8_months_13 rfl dX8_months_96 rfl rfl rfl (by decide) rfl ?_
    refine g_iconst 100 C 2 dX8_months_99 rfl (by decide) ?_
    refine g_dup2 101 C dX8_months_100 rfl rfl rfl ?_
    refine g_ialdc 102 C 1 (2) (σ15 1 2) dX8_months_101 rfl rfl (by decide) (by decide) rfl ?_
    refine g_iload_n 103 C dX8_months_102 rfl rfl rfl ?_
    refine g_iload 105 C dX8_months_103 rfl rfl ?_
    refine g_icmp_ge 108 112 C dX8_months_105 (by decide) rfl hF (fun hF => ?_) (fun hF => ?_)
    · refine g_iload 114 C dX8_months_112 rfl rfl ?_
      refine g_lv (lv2 := [(0, .ref (ad 0)), (1, .int z1), (2, .int z2)]) [0, 1, 2] rfl ?_
      exact K114 κ35 hκ35 z1 z2 z4 (σ15 1 2) 2 σ15 hF
    · refine g_iload_n 109 C dX8_months_108 rfl rfl rfl ?_
      refine g_goto 114 C dX8_months_109 (by decide) ?_
      refine g_lv (lv2 := [(0, .ref (ad 0)), (1, .int z1), (2, .int z2)]) [0, 1, 2] rfl ?_
      exact K114 κ35 hκ35 z1 z2 z3 (σ15 1 2) 2 σ15 hF
  have K35 : ∀ (nz : Nat), ∀ (z1 : Int32) (z2 : Int32) (σz : sg_S), f_X8_months_L35 nz z1 z2 σz = some (r, σ') → sg_G p l e ({ frames := 3, cells := 0, slots := 0, locals := 78 } : Room) s m args below meth c D (va_A (ww_X8 Y ad σ) s.heap.size) 5 0 0 Q 35 [(0, .ref (ad 0)), (1, .int z1), (2, .int z2)] [] (ww_X8 Y ad σz) := by
    intro nz
    induction nz with
    | zero =>
      intro z1 z2 σz hF
      rw [f_X8_months_L35.eq_1] at hF
      exact nomatch hF
    | succ nz ih =>
      intro z1 z2 σz hF
      rw [f_X8_months_L35.eq_2] at hF
      refine g_iload_n 36 C dX8_months_35 rfl rfl rfl ?_
      refine g_iconst 37 C 5 dX8_months_36 rfl (by decide) ?_
      refine g_icmp_ge 40 162 C dX8_months_37 (by decide) rfl hF (fun hF => ?_) (fun hF => ?_)
      · refine g_iload_n 163 C dX8_months_162 rfl rfl rfl ?_
        obtain ⟨e1, e2⟩ := sg_pairE hF
        exact g_iret C hr rfl hQ hsz dX8_months_163 e1.symm (by rw [e2])
      · refine g_aload_n 41 C dX8_months_40 rfl rfl rfl ?_
        refine g_get 44 C (own := RX8) (C1 := RX8) (T := TX8) 0 13 (.ref (ad 6)) kiX8_months_X8 kfX8_months_29 rfl dX8_months_41 rfl rfl rfl (by decide) rfl ?_
        refine g_aload_n 45 C dX8_months_44 rfl rfl rfl ?_
        refine g_get 48 C (own := RX8) (C1 := RX8) (T := TX8) 0 8 (.ref (ad 1)) kiX8_months_X8 kfX8_months_13 rfl dX8_months_45 rfl rfl rfl (by decide) rfl ?_
        refine g_iconst 49 C 0 dX8_months_48 rfl (by decide) ?_
        refine g_ialdc 50 C 1 (0) (σz 1 0) dX8_months_49 rfl rfl (by decide) (by decide) rfl ?_
        refine g_bipush 52 C 12 dX8_months_50 rfl (by decide) ?_
        refine g_iremc 53 C dX8_months_52 rfl (by decide) ?_
        obtain ⟨h5, hF⟩ := sg_grdE hF
        refine g_ialdc 54 C 6 (((σz 1 0) - (σz 1 0) / 12 * 12).toNatClampNeg) (σz 6 ((σz 1 0) - (σz 1 0) / 12 * 12).toNatClampNeg) dX8_months_53 rfl rfl rfl h5 rfl ?_
        obtain ⟨y6, ey6, hF⟩ := sg_letE hF
        refine g_top ey6 ?_
        refine g_istore_n 55 C [(3, .int y6), (0, .ref (ad 0)), (1, .int z1), (2, .int z2)] dX8_months_54 rfl rfl (by decide) rfl ?_
        refine g_bipush 57 C 60 dX8_months_55 rfl (by decide) ?_
        refine g_aload_n 58 C dX8_months_57 rfl rfl rfl ?_
        refine g_get 61 C (own := RX8) (C1 := RX8) (T := TX8) 0 8 (.ref (ad 1)) kiX8_months_X8 kfX8_months_13 rfl dX8_months_58 rfl rfl rfl (by decide) rfl ?_
        refine g_iload_n 62 C dX8_months_61 rfl rfl rfl ?_
        refine g_iconst 63 C 0 dX8_months_62 rfl (by decide) ?_
        obtain ⟨r7, q8, hF⟩ := sg_bndE hF
        refine g_callSi 66 C (w2 := (ww_X8 Y ad σz)) (As := [.int z2, .int 0]) (st := [.ref (ad 1), .int 60]) (n0 := 2) [] [0, 1, 2, 3, 4, 5, 6, 7, 8, 9, 10, 11, 12] [0, 1, 2, 3, 4, 5, 6, 7, 8, 9, 10, 11, 12] (c_X8_at l hZ (ad := ad) (σ := σz) q8) gX8_months_X8_at ⟨by decide +kernel, by decide +kernel, rfl⟩ rfl ⟨Nat.le_of_ble_eq_true rfl, Nat.le_of_ble_eq_true rfl⟩ ⟨rfl, rfl, rfl, by decide, rfl, rfl⟩ rfl rfl (Nat.le_of_ble_eq_true rfl) ⟨Nat.le_refl _, Nat.le_refl _⟩ dX8_months_63 rfl rfl ?_
        obtain ⟨h9, hF⟩ := sg_grdE hF
        refine g_ialdc 67 C 1 (r7.toNatClampNeg) (σz 1 r7.toNatClampNeg) dX8_months_66 rfl rfl rfl h9 rfl ?_
        refine g_isub 68 C dX8_months_67 rfl ?_
        obtain ⟨y10, ey10, hF⟩ := sg_letE hF
        refine g_top ey10 ?_
        refine g_istore 70 C [(4, .int y10), (3, .int y6), (0, .ref (ad 0)), (1, .int z1), (2, .int z2)] dX8_months_68 rfl (by decide) rfl ?_
        refine g_aload_n 71 C dX8_months_70 rfl rfl rfl ?_
        refine g_get 74 C (own := RX8) (C1 := RX8) (T := TX8) 0 8 (.ref (ad 1)) kiX8_months_X8 kfX8_months_13 rfl dX8_months_71 rfl rfl rfl (by decide) rfl ?_
        refine g_iload_n 75 C dX8_months_74 rfl rfl rfl ?_
        refine g_iconst 76 C 0 dX8_months_75 rfl (by decide) ?_
        obtain ⟨r11, q12, hF⟩ := sg_bndE hF
        refine g_callSi 79 C (w2 := (ww_X8 Y ad σz)) (As := [.int z2, .int 0]) (st := [.ref (ad 1)]) (n0 := 2) [] [0, 1, 2, 3, 4, 5, 6, 7, 8, 9, 10, 11, 12] [0, 1, 2, 3, 4, 5, 6, 7, 8, 9, 10, 11, 12] (c_X8_at l hZ (ad := ad) (σ := σz) q12) gX8_months_X8_at ⟨by decide +kernel, by decide +kernel, rfl⟩ rfl ⟨Nat.le_of_ble_eq_true rfl, Nat.le_of_ble_eq_true rfl⟩ ⟨rfl, rfl, rfl, by decide, rfl, rfl⟩ rfl rfl (Nat.le_of_ble_eq_true rfl) ⟨Nat.le_refl _, Nat.le_refl _⟩ dX8_months_76 rfl rfl ?_
        refine g_dup2 80 C dX8_months_79 rfl rfl rfl ?_
        obtain ⟨h13, hF⟩ := sg_grdE hF
        refine g_ialdc 81 C 1 (r11.toNatClampNeg) (σz 1 r11.toNatClampNeg) dX8_months_80 rfl rfl rfl h13 rfl ?_
        refine g_iload_n 82 C dX8_months_81 rfl rfl rfl ?_
        refine g_iload 84 C dX8_months_82 rfl rfl ?_
        refine g_icmp_ge 87 91 C dX8_months_84 (by decide) rfl hF (fun hF => ?_) (fun hF => ?_)
        · refine g_iload 93 C dX8_months_91 rfl rfl ?_
          refine g_lv (lv2 := [(0, .ref (ad 0)), (1, .int z1), (2, .int z2), (3, .int y6), (4, .int y10)]) [2, 3, 4, 1, 0] rfl ?_
          exact K93 (fun z1' z2' σz' => f_X8_months_L35 nz z1' z2' σz') ih z1 z2 y6 y10 y10 (σz 1 r11.toNatClampNeg) r11 σz hF
        · refine g_iload_n 88 C dX8_months_87 rfl rfl rfl ?_
          refine g_goto 93 C dX8_months_88 (by decide) ?_
          refine g_lv (lv2 := [(0, .ref (ad 0)), (1, .int z1), (2, .int z2), (3, .int y6), (4, .int y10)]) [2, 3, 4, 1, 0] rfl ?_
          exact K93 (fun z1' z2' σz' => f_X8_months_L35 nz z1' z2' σz') ih z1 z2 y6 y10 y6 (σz 1 r11.toNatClampNeg) r11 σz hF
  have K17 : ∀ (nz : Nat), ∀ (z1 : Int32) (z2 : Int32) (σz : sg_S), f_X8_months_L17 nz z1 z2 σz = some (r, σ') → sg_G p l e ({ frames := 3, cells := 0, slots := 0, locals := 78 } : Room) s m args below meth c D (va_A (ww_X8 Y ad σ) s.heap.size) 5 0 0 Q 17 [(0, .ref (ad 0)), (1, .int z1), (2, .int z2)] [] (ww_X8 Y ad σz) := by
    intro nz
    induction nz with
    | zero =>
      intro z1 z2 σz hF
      rw [f_X8_months_L17.eq_1] at hF
      exact nomatch hF
    | succ nz ih =>
      intro z1 z2 σz hF
      rw [f_X8_months_L17.eq_2] at hF
      refine g_iload_n 18 C dX8_months_17 rfl rfl rfl ?_
      refine g_iconst 19 C 5 dX8_months_18 rfl (by decide) ?_
      refine g_icmp_ge 22 33 C dX8_months_19 (by decide) rfl hF (fun hF => ?_) (fun hF => ?_)
      · refine g_iconst 34 C 0 dX8_months_33 rfl (by decide) ?_
        refine g_istore_n 35 C [(2, .int 0), (0, .ref (ad 0)), (1, .int z1)] dX8_months_34 rfl rfl (by decide) rfl ?_
        refine g_lv (lv2 := [(0, .ref (ad 0)), (1, .int z1), (2, .int 0)]) [1, 2, 0] rfl ?_
        exact K35  1000 z1 0 σz hF
      · refine g_aload_n 23 C dX8_months_22 rfl rfl rfl ?_
        refine g_iload_n 24 C dX8_months_23 rfl rfl rfl ?_
        obtain ⟨τ30, q31, hF⟩ := sg_bndE hF
        refine g_callVv 27 C (w2 := (ww_X8 Y ad τ30)) (As := [.int z2]) (st := []) (n0 := 1) (ci := 9) (q0 := 0) [0, 1, 2, 3, 4, 5, 6, 7, 8, 9, 10, 11, 12] [] [0, 1, 2, 3, 4, 5, 6, 7, 8, 9, 10, 11, 12] (c_X8_hails l hZ (ad := ad) q31) gX8_months_X8_hails ⟨rfl, by decide +kernel, by decide +kernel, rfl⟩ rfl ⟨Nat.le_of_ble_eq_true rfl, Nat.le_of_ble_eq_true rfl⟩ rfl rfl ⟨rfl, rfl, rfl, by decide, rfl, rfl⟩ rfl rfl (Nat.le_of_ble_eq_true rfl) ⟨Nat.le_refl _, Nat.le_refl _⟩ dX8_months_24 rfl rfl ?_
        refine g_iinc 30 C 2 (z2 + 1) [(2, .int (z2 + 1)), (0, .ref (ad 0)), (1, .int z1)] dX8_months_27 rfl rfl rfl (by decide) rfl ?_
        refine g_goto 17 C dX8_months_30 (by decide) ?_
        refine g_lv (lv2 := [(0, .ref (ad 0)), (1, .int z1), (2, .int (z2 + 1))]) [1, 2, 0] rfl ?_
        exact ih z1 (z2 + 1) τ30 hF
  rw [f_X8_months] at hF
  refine g_aload_n 1 C dX8_months_0 rfl rfl rfl ?_
  refine g_get 4 C (own := RX8) (C1 := RX8) (T := TX8) 0 8 (.ref (ad 1)) kiX8_months_X8 kfX8_months_13 rfl dX8_months_1 rfl rfl rfl (by decide) rfl ?_
  refine g_iconst 5 C 0 dX8_months_4 rfl (by decide) ?_
  refine g_dup2 6 C dX8_months_5 rfl rfl rfl ?_
  refine g_ialdc 7 C 1 (0) (σ 1 0) dX8_months_6 rfl rfl (by decide) (by decide) rfl ?_
  refine g_iconst 8 C 1 dX8_months_7 rfl (by decide) ?_
  refine g_iadd 9 C dX8_months_8 rfl ?_
  obtain ⟨σ1, eσ1, hF⟩ := sg_letE hF
  refine g_iast 10 C (w2 := (ww_X8 Y ad σ1)) 1 dX8_months_9 rfl rfl (by decide) (by rw [eσ1]; rfl) ?_
  refine g_aload_n 11 C dX8_months_10 rfl rfl rfl ?_
  obtain ⟨r4, τ2, q3, hF⟩ := sg_bnd2E hF
  refine g_callVi 14 C (w2 := (ww_X8 Y ad τ2)) (As := []) (st := []) (n0 := 0) (ci := 9) (q0 := 0) [0, 1, 2, 3, 4, 5, 6, 7, 8, 9, 10, 11, 12] [] [0, 1, 2, 3, 4, 5, 6, 7, 8, 9, 10, 11, 12] (c_X8_settles l hZ (ad := ad) q3) gX8_months_X8_settles ⟨rfl, by decide +kernel, by decide +kernel, rfl⟩ rfl ⟨Nat.le_of_ble_eq_true rfl, Nat.le_of_ble_eq_true rfl⟩ rfl rfl ⟨rfl, rfl, rfl, by decide, rfl, rfl⟩ rfl rfl (Nat.le_of_ble_eq_true rfl) ⟨Nat.le_refl _, Nat.le_refl _⟩ dX8_months_11 rfl rfl ?_
  refine g_istore_n 15 C [(1, .int r4), (0, .ref (ad 0))] dX8_months_14 rfl rfl (by decide) rfl ?_
  refine g_iconst 16 C 0 dX8_months_15 rfl (by decide) ?_
  refine g_istore_n 17 C [(2, .int 0), (1, .int r4), (0, .ref (ad 0))] dX8_months_16 rfl rfl (by decide) rfl ?_
  refine g_lv (lv2 := [(0, .ref (ad 0)), (1, .int r4), (2, .int 0)]) [2, 1, 0] rfl ?_
  exact K17  1000 r4 0 τ2 hF
def f_X8_month  (σ : sg_S) : Option (Int32 × sg_S) := sg_bnd (f_X8_begins  σ) (fun τ1 => sg_bnd2 (f_X8_months  τ1) (fun r5 τ3 => sg_bnd2 (f_X8_ends r5 τ3) (fun r8 τ6 => some (r8, τ6))))
set_option maxHeartbeats 4000000 in
set_option maxRecDepth 100000 in
theorem c_X8_month (l : Launch) {D : va_G} {Y : Nat → ClassId} {Z : (Nat → Prop) → State → Heap → Prop} (hZ : sg_Zok Z) {ad : Nat → Nat} {σ : sg_S} {σ' : sg_S} {r : Int32} (hF : f_X8_month  σ = some (r, σ')) : sg_MI l yX8_month wsX8_month 4 102 D Y Z [.ref (ad 0)] (ww_X8 Y ad σ) r (ww_X8 Y ad σ') := by
  intro sz
  refine sg_enter (own := RX8) (maxL := 1) (ret := (some .int)) (cc := cX8_month) (by decide +kernel) rfl rfl (Nat.le_of_ble_eq_true rfl) hZ ?_
  intro p e s m args below meth c C hr Q hQ hsz
  refine g_lv (lv2 := [(0, .ref (ad 0))]) [0] rfl ?_
  rw [f_X8_month] at hF
  refine g_aload_n 1 C dX8_month_0 rfl rfl rfl ?_
  obtain ⟨τ1, q2, hF⟩ := sg_bndE hF
  refine g_callVv 4 C (w2 := (ww_X8 Y ad τ1)) (As := []) (st := []) (n0 := 0) (ci := 9) (q0 := 0) [0, 1, 2, 3, 4, 5, 6, 7, 8, 9, 10, 11, 12] [] [0, 1, 2, 3, 4, 5, 6, 7, 8, 9, 10, 11, 12] (c_X8_begins l hZ (ad := ad) q2) gX8_month_X8_begins ⟨rfl, by decide +kernel, by decide +kernel, rfl⟩ rfl ⟨Nat.le_of_ble_eq_true rfl, Nat.le_of_ble_eq_true rfl⟩ rfl rfl ⟨rfl, rfl, rfl, by decide, rfl, rfl⟩ rfl rfl (Nat.le_of_ble_eq_true rfl) ⟨Nat.le_refl _, Nat.le_refl _⟩ dX8_month_1 rfl rfl ?_
  refine g_aload_n 5 C dX8_month_4 rfl rfl rfl ?_
  refine g_aload_n 6 C dX8_month_5 rfl rfl rfl ?_
  obtain ⟨r5, τ3, q4, hF⟩ := sg_bnd2E hF
  refine g_callVi 9 C (w2 := (ww_X8 Y ad τ3)) (As := []) (st := [.ref (ad 0)]) (n0 := 0) (ci := 9) (q0 := 0) [0, 1, 2, 3, 4, 5, 6, 7, 8, 9, 10, 11, 12] [] [0, 1, 2, 3, 4, 5, 6, 7, 8, 9, 10, 11, 12] (c_X8_months l hZ (ad := ad) q4) gX8_month_X8_months ⟨rfl, by decide +kernel, by decide +kernel, rfl⟩ rfl ⟨Nat.le_of_ble_eq_true rfl, Nat.le_of_ble_eq_true rfl⟩ rfl rfl ⟨rfl, rfl, rfl, by decide, rfl, rfl⟩ rfl rfl (Nat.le_of_ble_eq_true rfl) ⟨Nat.le_refl _, Nat.le_refl _⟩ dX8_month_6 rfl rfl ?_
  obtain ⟨r8, τ6, q7, hF⟩ := sg_bnd2E hF
  refine g_callVi 12 C (w2 := (ww_X8 Y ad τ6)) (As := [.int r5]) (st := []) (n0 := 1) (ci := 9) (q0 := 0) [0, 1, 2, 3, 4, 5, 6, 7, 8, 9, 10, 11, 12] [] [0, 1, 2, 3, 4, 5, 6, 7, 8, 9, 10, 11, 12] (c_X8_ends l hZ (ad := ad) q7) gX8_month_X8_ends ⟨rfl, by decide +kernel, by decide +kernel, rfl⟩ rfl ⟨Nat.le_of_ble_eq_true rfl, Nat.le_of_ble_eq_true rfl⟩ rfl rfl ⟨rfl, rfl, rfl, by decide, rfl, rfl⟩ rfl rfl (Nat.le_of_ble_eq_true rfl) ⟨Nat.le_refl _, Nat.le_refl _⟩ dX8_month_9 rfl rfl ?_
  obtain ⟨e1, e2⟩ := sg_pairE hF
  exact g_iret C hr rfl hQ hsz dX8_month_12 e1.symm (by rw [e2])
theorem kiX8_creditsOf_X8 : ∀ w ∈ u_ws RX8 TX8 27, w ∈ wsX8_creditsOf := by decide +kernel
theorem kfX8_creditsOf_13 : Cond.fieldLink RX8 13 "WeatherMinistryModel" "v" "[I" ∈ wsX8_creditsOf := by decide +kernel
def f_X8_creditsOf_L4 (x1 : Int32) (σ : sg_S) : Nat → Int32 → Int32 → Option Int32
  | 0, _, _ => none
  | nz + 1, z2, z3 => (if z3 < σ 1 1 then sg_bnd (f_X8_in z3 0) (fun r1 => sg_grd (sg_in r1 79) ((if σ 1 r1.toNatClampNeg = x1 then sg_let (z2 + 1) (fun y5 => f_X8_creditsOf_L4 x1 σ nz y5 (z3 + 1)) else sg_let (z2 + 0) (fun y4 => f_X8_creditsOf_L4 x1 σ nz y4 (z3 + 1))))) else some z2)
def f_X8_creditsOf (x1 : Int32) (σ : sg_S) : Option Int32 := f_X8_creditsOf_L4 x1 σ 1000 0 0
set_option maxHeartbeats 4000000 in
set_option maxRecDepth 100000 in
theorem c_X8_creditsOf (l : Launch) {D : va_G} {Y : Nat → ClassId} {Z : (Nat → Prop) → State → Heap → Prop} (hZ : sg_Zok Z) {ad : Nat → Nat} {σ : sg_S} {x1 : Int32} {r : Int32} (hF : f_X8_creditsOf x1 σ = some r) : sg_MI l yX8_creditsOf wsX8_creditsOf 1 21 D Y Z [.ref (ad 0), .int x1] (ww_X8 Y ad σ) r (ww_X8 Y ad σ) := by
  intro sz
  refine sg_enter (own := RX8) (maxL := 4) (ret := (some .int)) (cc := cX8_creditsOf) (by decide +kernel) rfl rfl (Nat.le_of_ble_eq_true rfl) hZ ?_
  intro p e s m args below meth c C hr Q hQ hsz
  refine g_lv (lv2 := [(0, .ref (ad 0)), (1, .int x1)]) [0, 1] rfl ?_
  have K4 : ∀ (nz : Nat), ∀ (z2 : Int32) (z3 : Int32), f_X8_creditsOf_L4 x1 σ nz z2 z3 = some r → sg_G p l e ({ frames := 1, cells := 0, slots := 0, locals := 21 } : Room) s m args below meth c D (va_A (ww_X8 Y ad σ) s.heap.size) 4 0 0 Q 4 [(0, .ref (ad 0)), (1, .int x1), (2, .int z2), (3, .int z3)] [] (ww_X8 Y ad σ) := by
    intro nz
    induction nz with
    | zero =>
      intro z2 z3 hF
      rw [f_X8_creditsOf_L4.eq_1] at hF
      exact nomatch hF
    | succ nz ih =>
      intro z2 z3 hF
      rw [f_X8_creditsOf_L4.eq_2] at hF
      refine g_iload_n 5 C dX8_creditsOf_4 rfl rfl rfl ?_
      refine g_aload_n 6 C dX8_creditsOf_5 rfl rfl rfl ?_
      refine g_get 9 C (own := RX8) (C1 := RX8) (T := TX8) 0 8 (.ref (ad 1)) kiX8_creditsOf_X8 kfX8_creditsOf_13 rfl dX8_creditsOf_6 rfl rfl rfl (by decide) rfl ?_
      refine g_iconst 10 C 1 dX8_creditsOf_9 rfl (by decide) ?_
      refine g_ialdc 11 C 1 (1) (σ 1 1) dX8_creditsOf_10 rfl rfl (by decide) (by decide) rfl ?_
      refine g_icmp_ge 14 42 C dX8_creditsOf_11 (by decide) rfl hF (fun hF => ?_) (fun hF => ?_)
      · refine g_iload_n 43 C dX8_creditsOf_42 rfl rfl rfl ?_
        have e1 := sg_someE hF
        exact g_iret C hr rfl hQ hsz dX8_creditsOf_43 e1.symm rfl
      · refine g_iload_n 15 C dX8_creditsOf_14 rfl rfl rfl ?_
        refine g_aload_n 16 C dX8_creditsOf_15 rfl rfl rfl ?_
        refine g_get 19 C (own := RX8) (C1 := RX8) (T := TX8) 0 8 (.ref (ad 1)) kiX8_creditsOf_X8 kfX8_creditsOf_13 rfl dX8_creditsOf_16 rfl rfl rfl (by decide) rfl ?_
        refine g_iload_n 20 C dX8_creditsOf_19 rfl rfl rfl ?_
        refine g_iconst 21 C 0 dX8_creditsOf_20 rfl (by decide) ?_
        obtain ⟨r1, q2, hF⟩ := sg_bndE hF
        refine g_callSi 24 C (w2 := (ww_X8 Y ad σ)) (As := [.int z3, .int 0]) (st := [.ref (ad 1), .int z2]) (n0 := 2) [] [0, 1, 2, 3, 4, 5, 6, 7, 8, 9, 10, 11, 12] [0, 1, 2, 3, 4, 5, 6, 7, 8, 9, 10, 11, 12] (c_X8_in l hZ (ad := ad) (σ := σ) q2) gX8_creditsOf_X8_in ⟨by decide +kernel, by decide +kernel, rfl⟩ rfl ⟨Nat.le_of_ble_eq_true rfl, Nat.le_of_ble_eq_true rfl⟩ ⟨rfl, rfl, rfl, by decide, rfl, rfl⟩ rfl rfl (Nat.le_of_ble_eq_true rfl) ⟨Nat.le_refl _, Nat.le_refl _⟩ dX8_creditsOf_21 rfl rfl ?_
        obtain ⟨h3, hF⟩ := sg_grdE hF
        refine g_ialdc 25 C 1 (r1.toNatClampNeg) (σ 1 r1.toNatClampNeg) dX8_creditsOf_24 rfl rfl rfl h3 rfl ?_
        refine g_iload_n 26 C dX8_creditsOf_25 rfl rfl rfl ?_
        refine g_icmp_ne 29 33 C dX8_creditsOf_26 (by decide) rfl hF (fun hF => ?_) (fun hF => ?_)
        · refine g_iconst 34 C 0 dX8_creditsOf_33 rfl (by decide) ?_
          refine g_iadd 35 C dX8_creditsOf_34 rfl ?_
          obtain ⟨y4, ey4, hF⟩ := sg_letE hF
          refine g_top ey4 ?_
          refine g_istore_n 36 C [(2, .int y4), (0, .ref (ad 0)), (1, .int x1), (3, .int z3)] dX8_creditsOf_35 rfl rfl (by decide) rfl ?_
          refine g_iinc 39 C 3 (z3 + 1) [(3, .int (z3 + 1)), (2, .int y4), (0, .ref (ad 0)), (1, .int x1)] dX8_creditsOf_36 rfl rfl rfl (by decide) rfl ?_
          refine g_goto 4 C dX8_creditsOf_39 (by decide) ?_
          refine g_lv (lv2 := [(0, .ref (ad 0)), (1, .int x1), (2, .int y4), (3, .int (z3 + 1))]) [2, 3, 1, 0] rfl ?_
          exact ih y4 (z3 + 1) hF
        · refine g_iconst 30 C 1 dX8_creditsOf_29 rfl (by decide) ?_
          refine g_goto 34 C dX8_creditsOf_30 (by decide) ?_
          refine g_iadd 35 C dX8_creditsOf_34 rfl ?_
          obtain ⟨y5, ey5, hF⟩ := sg_letE hF
          refine g_top ey5 ?_
          refine g_istore_n 36 C [(2, .int y5), (0, .ref (ad 0)), (1, .int x1), (3, .int z3)] dX8_creditsOf_35 rfl rfl (by decide) rfl ?_
          refine g_iinc 39 C 3 (z3 + 1) [(3, .int (z3 + 1)), (2, .int y5), (0, .ref (ad 0)), (1, .int x1)] dX8_creditsOf_36 rfl rfl rfl (by decide) rfl ?_
          refine g_goto 4 C dX8_creditsOf_39 (by decide) ?_
          refine g_lv (lv2 := [(0, .ref (ad 0)), (1, .int x1), (2, .int y5), (3, .int (z3 + 1))]) [2, 3, 1, 0] rfl ?_
          exact ih y5 (z3 + 1) hF
  rw [f_X8_creditsOf] at hF
  refine g_iconst 1 C 0 dX8_creditsOf_0 rfl (by decide) ?_
  refine g_istore_n 2 C [(2, .int 0), (0, .ref (ad 0)), (1, .int x1)] dX8_creditsOf_1 rfl rfl (by decide) rfl ?_
  refine g_iconst 3 C 0 dX8_creditsOf_2 rfl (by decide) ?_
  refine g_istore_n 4 C [(3, .int 0), (2, .int 0), (0, .ref (ad 0)), (1, .int x1)] dX8_creditsOf_3 rfl rfl (by decide) rfl ?_
  refine g_lv (lv2 := [(0, .ref (ad 0)), (1, .int x1), (2, .int 0), (3, .int 0)]) [2, 3, 1, 0] rfl ?_
  exact K4  1000 0 0 hF
theorem kiX8_reached_X8 : ∀ w ∈ u_ws RX8 TX8 27, w ∈ wsX8_reached := by decide +kernel
theorem kfX8_reached_32 : Cond.fieldLink RX8 32 "WeatherMinistryModel" "away" "[I" ∈ wsX8_reached := by decide +kernel
def f_X8_reached_L9 (x1 : Int32) : Nat → Int32 → Int32 → sg_S → Option (Int32 × sg_S)
  | 0, _, _, _ => none
  | nz + 1, z2, z3, σz => (if z3 < 5 then sg_grd (sg_in z3 5) ((if 0 < σz 7 z3.toNatClampNeg then sg_let (z2 + 1) (fun y5 => f_X8_reached_L9 x1 nz y5 (z3 + 1) σz) else sg_let (z2 + 0) (fun y4 => f_X8_reached_L9 x1 nz y4 (z3 + 1) σz))) else some (z2, σz))
def f_X8_reached (x1 : Int32) (σ : sg_S) : Option (Int32 × sg_S) := sg_bnd (f_X8_finds x1 σ) (fun τ1 => f_X8_reached_L9 x1 1000 0 0 τ1)
set_option maxHeartbeats 4000000 in
set_option maxRecDepth 100000 in
theorem c_X8_reached (l : Launch) {D : va_G} {Y : Nat → ClassId} {Z : (Nat → Prop) → State → Heap → Prop} (hZ : sg_Zok Z) {ad : Nat → Nat} {σ : sg_S} {σ' : sg_S} {x1 : Int32} {r : Int32} (hF : f_X8_reached x1 σ = some (r, σ')) : sg_MI l yX8_reached wsX8_reached 1 25 D Y Z [.ref (ad 0), .int x1] (ww_X8 Y ad σ) r (ww_X8 Y ad σ') := by
  intro sz
  refine sg_enter (own := RX8) (maxL := 4) (ret := (some .int)) (cc := cX8_reached) (by decide +kernel) rfl rfl (Nat.le_of_ble_eq_true rfl) hZ ?_
  intro p e s m args below meth c C hr Q hQ hsz
  refine g_lv (lv2 := [(0, .ref (ad 0)), (1, .int x1)]) [0, 1] rfl ?_
  have K9 : ∀ (nz : Nat), ∀ (z2 : Int32) (z3 : Int32) (σz : sg_S), f_X8_reached_L9 x1 nz z2 z3 σz = some (r, σ') → sg_G p l e ({ frames := 1, cells := 0, slots := 0, locals := 25 } : Room) s m args below meth c D (va_A (ww_X8 Y ad σ) s.heap.size) 4 0 0 Q 9 [(0, .ref (ad 0)), (2, .int z2), (3, .int z3)] [] (ww_X8 Y ad σz) := by
    intro nz
    induction nz with
    | zero =>
      intro z2 z3 σz hF
      rw [f_X8_reached_L9.eq_1] at hF
      exact nomatch hF
    | succ nz ih =>
      intro z2 z3 σz hF
      rw [f_X8_reached_L9.eq_2] at hF
      refine g_iload_n 10 C dX8_reached_9 rfl rfl rfl ?_
      refine g_iconst 11 C 5 dX8_reached_10 rfl (by decide) ?_
      refine g_icmp_ge 14 37 C dX8_reached_11 (by decide) rfl hF (fun hF => ?_) (fun hF => ?_)
      · refine g_iload_n 38 C dX8_reached_37 rfl rfl rfl ?_
        obtain ⟨e1, e2⟩ := sg_pairE hF
        exact g_iret C hr rfl hQ hsz dX8_reached_38 e1.symm (by rw [e2])
      · refine g_iload_n 15 C dX8_reached_14 rfl rfl rfl ?_
        refine g_aload_n 16 C dX8_reached_15 rfl rfl rfl ?_
        refine g_get 19 C (own := RX8) (C1 := RX8) (T := TX8) 0 14 (.ref (ad 7)) kiX8_reached_X8 kfX8_reached_32 rfl dX8_reached_16 rfl rfl rfl (by decide) rfl ?_
        refine g_iload_n 20 C dX8_reached_19 rfl rfl rfl ?_
        obtain ⟨h3, hF⟩ := sg_grdE hF
        refine g_ialdc 21 C 7 (z3.toNatClampNeg) (σz 7 z3.toNatClampNeg) dX8_reached_20 rfl rfl rfl h3 rfl ?_
        refine g_if_le 24 28 C dX8_reached_21 (by decide) rfl hF (fun hF => ?_) (fun hF => ?_)
        · refine g_iconst 29 C 0 dX8_reached_28 rfl (by decide) ?_
          refine g_iadd 30 C dX8_reached_29 rfl ?_
          obtain ⟨y4, ey4, hF⟩ := sg_letE hF
          refine g_top ey4 ?_
          refine g_istore_n 31 C [(2, .int y4), (0, .ref (ad 0)), (3, .int z3)] dX8_reached_30 rfl rfl (by decide) rfl ?_
          refine g_iinc 34 C 2 (z3 + 1) [(3, .int (z3 + 1)), (2, .int y4), (0, .ref (ad 0))] dX8_reached_31 rfl rfl rfl (by decide) rfl ?_
          refine g_goto 9 C dX8_reached_34 (by decide) ?_
          refine g_lv (lv2 := [(0, .ref (ad 0)), (2, .int y4), (3, .int (z3 + 1))]) [2, 1, 0] rfl ?_
          exact ih y4 (z3 + 1) σz hF
        · refine g_iconst 25 C 1 dX8_reached_24 rfl (by decide) ?_
          refine g_goto 29 C dX8_reached_25 (by decide) ?_
          refine g_iadd 30 C dX8_reached_29 rfl ?_
          obtain ⟨y5, ey5, hF⟩ := sg_letE hF
          refine g_top ey5 ?_
          refine g_istore_n 31 C [(2, .int y5), (0, .ref (ad 0)), (3, .int z3)] dX8_reached_30 rfl rfl (by decide) rfl ?_
          refine g_iinc 34 C 2 (z3 + 1) [(3, .int (z3 + 1)), (2, .int y5), (0, .ref (ad 0))] dX8_reached_31 rfl rfl rfl (by decide) rfl ?_
          refine g_goto 9 C dX8_reached_34 (by decide) ?_
          refine g_lv (lv2 := [(0, .ref (ad 0)), (2, .int y5), (3, .int (z3 + 1))]) [2, 1, 0] rfl ?_
          exact ih y5 (z3 + 1) σz hF
  rw [f_X8_reached] at hF
  refine g_iconst 1 C 0 dX8_reached_0 rfl (by decide) ?_
  refine g_istore_n 2 C [(2, .int 0), (0, .ref (ad 0)), (1, .int x1)] dX8_reached_1 rfl rfl (by decide) rfl ?_
  refine g_aload_n 3 C dX8_reached_2 rfl rfl rfl ?_
  refine g_iload_n 4 C dX8_reached_3 rfl rfl rfl ?_
  obtain ⟨τ1, q2, hF⟩ := sg_bndE hF
  refine g_callVv 7 C (w2 := (ww_X8 Y ad τ1)) (As := [.int x1]) (st := []) (n0 := 1) (ci := 9) (q0 := 0) [0, 1, 2, 3, 4, 5, 6, 7, 8, 9, 10, 11, 12] [] [0, 1, 2, 3, 4, 5, 6, 7, 8, 9, 10, 11, 12] (c_X8_finds l hZ (ad := ad) q2) gX8_reached_X8_finds ⟨rfl, by decide +kernel, by decide +kernel, rfl⟩ rfl ⟨Nat.le_of_ble_eq_true rfl, Nat.le_of_ble_eq_true rfl⟩ rfl rfl ⟨rfl, rfl, rfl, by decide, rfl, rfl⟩ rfl rfl (Nat.le_of_ble_eq_true rfl) ⟨Nat.le_refl _, Nat.le_refl _⟩ dX8_reached_4 rfl rfl ?_
  refine g_iconst 8 C 0 dX8_reached_7 rfl (by decide) ?_
  refine g_istore_n 9 C [(3, .int 0), (2, .int 0), (0, .ref (ad 0)), (1, .int x1)] dX8_reached_8 rfl rfl (by decide) rfl ?_
  refine g_lv (lv2 := [(0, .ref (ad 0)), (2, .int 0), (3, .int 0)]) [2, 1, 0] rfl ?_
  exact K9  1000 0 0 τ1 hF
theorem kiX8_townOf_X8 : ∀ w ∈ u_ws RX8 TX8 27, w ∈ wsX8_townOf := by decide +kernel
theorem kfX8_townOf_13 : Cond.fieldLink RX8 13 "WeatherMinistryModel" "v" "[I" ∈ wsX8_townOf := by decide +kernel
def f_X8_townOf (x1 : Int32) (x2 : Int32) (σ : sg_S) : Option (Int32 × sg_S) := sg_bnd (f_X8_isTown x1) (fun r1 => (if r1 = 0 then some ((-1), σ) else (if x2 = 0 then sg_bnd (f_X8_at x1 x2) (fun r3 => sg_grd (sg_in r3 79) (some (σ 1 r3.toNatClampNeg, σ))) else (if x2 = 1 then sg_bnd (f_X8_at x1 x2) (fun r7 => sg_grd (sg_in r7 79) (some (σ 1 r7.toNatClampNeg, σ))) else (if x2 = 2 then sg_bnd (f_X8_at x1 x2) (fun r11 => sg_grd (sg_in r11 79) (some (σ 1 r11.toNatClampNeg, σ))) else (if x2 = 3 then sg_bnd (f_X8_at x1 x2) (fun r15 => sg_grd (sg_in r15 79) (some (σ 1 r15.toNatClampNeg, σ))) else (if x2 = 4 then sg_bnd (f_X8_creditsOf x1 σ) (fun r19 => some (r19, σ)) else (if x2 = 5 then sg_bnd (f_X8_treaties x1 σ) (fun r22 => some (r22, σ)) else (if x2 = 6 then sg_bnd2 (f_X8_reached x1 σ) (fun r27 τ25 => some (r27, τ25)) else some ((-2), σ))))))))))
set_option maxHeartbeats 4000000 in
set_option maxRecDepth 100000 in
theorem c_X8_townOf (l : Launch) {D : va_G} {Y : Nat → ClassId} {Z : (Nat → Prop) → State → Heap → Prop} (hZ : sg_Zok Z) {ad : Nat → Nat} {σ : sg_S} {σ' : sg_S} {x1 x2 : Int32} {r : Int32} (hF : f_X8_townOf x1 x2 σ = some (r, σ')) : sg_MI l yX8_townOf wsX8_townOf 2 48 D Y Z [.ref (ad 0), .int x1, .int x2] (ww_X8 Y ad σ) r (ww_X8 Y ad σ') := by
  intro sz
  refine sg_enter (own := RX8) (maxL := 3) (ret := (some .int)) (cc := cX8_townOf) (by decide +kernel) rfl rfl (Nat.le_of_ble_eq_true rfl) hZ ?_
  intro p e s m args below meth c C hr Q hQ hsz
  refine g_lv (lv2 := [(0, .ref (ad 0)), (1, .int x1), (2, .int x2)]) [0, 1, 2] rfl ?_
  rw [f_X8_townOf] at hF
  refine g_iload_n 1 C dX8_townOf_0 rfl rfl rfl ?_
  obtain ⟨r1, q2, hF⟩ := sg_bndE hF
  refine g_callSi 4 C (w2 := (ww_X8 Y ad σ)) (As := [.int x1]) (st := []) (n0 := 1) [] [0, 1, 2, 3, 4, 5, 6, 7, 8, 9, 10, 11, 12] [0, 1, 2, 3, 4, 5, 6, 7, 8, 9, 10, 11, 12] (c_X8_isTown l hZ (ad := ad) (σ := σ) q2) gX8_townOf_X8_isTown ⟨by decide +kernel, by decide +kernel, rfl⟩ rfl ⟨Nat.le_of_ble_eq_true rfl, Nat.le_of_ble_eq_true rfl⟩ ⟨rfl, rfl, rfl, by decide, rfl, rfl⟩ rfl rfl (Nat.le_of_ble_eq_true rfl) ⟨Nat.le_refl _, Nat.le_refl _⟩ dX8_townOf_1 rfl rfl ?_
  refine g_if_ne 7 9 C dX8_townOf_4 (by decide) rfl hF (fun hF => ?_) (fun hF => ?_)
  · refine g_iload_n 10 C dX8_townOf_9 rfl rfl rfl ?_
    rcases sg_iteE hF with ⟨c6, hF⟩ | ⟨c6, hF⟩
    · refine g_tsin (off := 42) C 52 0 dX8_townOf_10 c6 (by decide) (by decide) (by decide) (by decide) ?_
      refine g_aload_n 53 C dX8_townOf_52 rfl rfl rfl ?_
      refine g_get 56 C (own := RX8) (C1 := RX8) (T := TX8) 0 8 (.ref (ad 1)) kiX8_townOf_X8 kfX8_townOf_13 rfl dX8_townOf_53 rfl rfl rfl (by decide) rfl ?_
      refine g_iload_n 57 C dX8_townOf_56 rfl rfl rfl ?_
      refine g_iload_n 58 C dX8_townOf_57 rfl rfl rfl ?_
      obtain ⟨r3, q4, hF⟩ := sg_bndE hF
      refine g_callSi 61 C (w2 := (ww_X8 Y ad σ)) (As := [.int x1, .int x2]) (st := [.ref (ad 1)]) (n0 := 2) [] [0, 1, 2, 3, 4, 5, 6, 7, 8, 9, 10, 11, 12] [0, 1, 2, 3, 4, 5, 6, 7, 8, 9, 10, 11, 12] (c_X8_at l hZ (ad := ad) (σ := σ) q4) gX8_townOf_X8_at ⟨by decide +kernel, by decide +kernel, rfl⟩ rfl ⟨Nat.le_of_ble_eq_true rfl, Nat.le_of_ble_eq_true rfl⟩ ⟨rfl, rfl, rfl, by decide, rfl, rfl⟩ rfl rfl (Nat.le_of_ble_eq_true rfl) ⟨Nat.le_refl _, Nat.le_refl _⟩ dX8_townOf_58 rfl rfl ?_
      obtain ⟨h5, hF⟩ := sg_grdE hF
      refine g_ialdc 62 C 1 (r3.toNatClampNeg) (σ 1 r3.toNatClampNeg) dX8_townOf_61 rfl rfl rfl h5 rfl ?_
      obtain ⟨e1, e2⟩ := sg_pairE hF
      exact g_iret C hr rfl hQ hsz dX8_townOf_62 e1.symm (by rw [e2])
    rcases sg_iteE hF with ⟨c10, hF⟩ | ⟨c10, hF⟩
    · refine g_tsin (off := 42) C 52 1 dX8_townOf_10 c10 (by decide) (by decide) (by decide) (by decide) ?_
      refine g_aload_n 53 C dX8_townOf_52 rfl rfl rfl ?_
      refine g_get 56 C (own := RX8) (C1 := RX8) (T := TX8) 0 8 (.ref (ad 1)) kiX8_townOf_X8 kfX8_townOf_13 rfl dX8_townOf_53 rfl rfl rfl (by decide) rfl ?_
      refine g_iload_n 57 C dX8_townOf_56 rfl rfl rfl ?_
      refine g_iload_n 58 C dX8_townOf_57 rfl rfl rfl ?_
      obtain ⟨r7, q8, hF⟩ := sg_bndE hF
      refine g_callSi 61 C (w2 := (ww_X8 Y ad σ)) (As := [.int x1, .int x2]) (st := [.ref (ad 1)]) (n0 := 2) [] [0, 1, 2, 3, 4, 5, 6, 7, 8, 9, 10, 11, 12] [0, 1, 2, 3, 4, 5, 6, 7, 8, 9, 10, 11, 12] (c_X8_at l hZ (ad := ad) (σ := σ) q8) gX8_townOf_X8_at ⟨by decide +kernel, by decide +kernel, rfl⟩ rfl ⟨Nat.le_of_ble_eq_true rfl, Nat.le_of_ble_eq_true rfl⟩ ⟨rfl, rfl, rfl, by decide, rfl, rfl⟩ rfl rfl (Nat.le_of_ble_eq_true rfl) ⟨Nat.le_refl _, Nat.le_refl _⟩ dX8_townOf_58 rfl rfl ?_
      obtain ⟨h9, hF⟩ := sg_grdE hF
      refine g_ialdc 62 C 1 (r7.toNatClampNeg) (σ 1 r7.toNatClampNeg) dX8_townOf_61 rfl rfl rfl h9 rfl ?_
      obtain ⟨e1, e2⟩ := sg_pairE hF
      exact g_iret C hr rfl hQ hsz dX8_townOf_62 e1.symm (by rw [e2])
    rcases sg_iteE hF with ⟨c14, hF⟩ | ⟨c14, hF⟩
    · refine g_tsin (off := 42) C 52 2 dX8_townOf_10 c14 (by decide) (by decide) (by decide) (by decide) ?_
      refine g_aload_n 53 C dX8_townOf_52 rfl rfl rfl ?_
      refine g_get 56 C (own := RX8) (C1 := RX8) (T := TX8) 0 8 (.ref (ad 1)) kiX8_townOf_X8 kfX8_townOf_13 rfl dX8_townOf_53 rfl rfl rfl (by decide) rfl ?_
      refine g_iload_n 57 C dX8_townOf_56 rfl rfl rfl ?_
      refine g_iload_n 58 C dX8_townOf_57 rfl rfl rfl ?_
      obtain ⟨r11, q12, hF⟩ := sg_bndE hF
      refine g_callSi 61 C (w2 := (ww_X8 Y ad σ)) (As := [.int x1, .int x2]) (st := [.ref (ad 1)]) (n0 := 2) [] [0, 1, 2, 3, 4, 5, 6, 7, 8, 9, 10, 11, 12] [0, 1, 2, 3, 4, 5, 6, 7, 8, 9, 10, 11, 12] (c_X8_at l hZ (ad := ad) (σ := σ) q12) gX8_townOf_X8_at ⟨by decide +kernel, by decide +kernel, rfl⟩ rfl ⟨Nat.le_of_ble_eq_true rfl, Nat.le_of_ble_eq_true rfl⟩ ⟨rfl, rfl, rfl, by decide, rfl, rfl⟩ rfl rfl (Nat.le_of_ble_eq_true rfl) ⟨Nat.le_refl _, Nat.le_refl _⟩ dX8_townOf_58 rfl rfl ?_
      obtain ⟨h13, hF⟩ := sg_grdE hF
      refine g_ialdc 62 C 1 (r11.toNatClampNeg) (σ 1 r11.toNatClampNeg) dX8_townOf_61 rfl rfl rfl h13 rfl ?_
      obtain ⟨e1, e2⟩ := sg_pairE hF
      exact g_iret C hr rfl hQ hsz dX8_townOf_62 e1.symm (by rw [e2])
    rcases sg_iteE hF with ⟨c18, hF⟩ | ⟨c18, hF⟩
    · refine g_tsin (off := 42) C 52 3 dX8_townOf_10 c18 (by decide) (by decide) (by decide) (by decide) ?_
      refine g_aload_n 53 C dX8_townOf_52 rfl rfl rfl ?_
      refine g_get 56 C (own := RX8) (C1 := RX8) (T := TX8) 0 8 (.ref (ad 1)) kiX8_townOf_X8 kfX8_townOf_13 rfl dX8_townOf_53 rfl rfl rfl (by decide) rfl ?_
      refine g_iload_n 57 C dX8_townOf_56 rfl rfl rfl ?_
      refine g_iload_n 58 C dX8_townOf_57 rfl rfl rfl ?_
      obtain ⟨r15, q16, hF⟩ := sg_bndE hF
      refine g_callSi 61 C (w2 := (ww_X8 Y ad σ)) (As := [.int x1, .int x2]) (st := [.ref (ad 1)]) (n0 := 2) [] [0, 1, 2, 3, 4, 5, 6, 7, 8, 9, 10, 11, 12] [0, 1, 2, 3, 4, 5, 6, 7, 8, 9, 10, 11, 12] (c_X8_at l hZ (ad := ad) (σ := σ) q16) gX8_townOf_X8_at ⟨by decide +kernel, by decide +kernel, rfl⟩ rfl ⟨Nat.le_of_ble_eq_true rfl, Nat.le_of_ble_eq_true rfl⟩ ⟨rfl, rfl, rfl, by decide, rfl, rfl⟩ rfl rfl (Nat.le_of_ble_eq_true rfl) ⟨Nat.le_refl _, Nat.le_refl _⟩ dX8_townOf_58 rfl rfl ?_
      obtain ⟨h17, hF⟩ := sg_grdE hF
      refine g_ialdc 62 C 1 (r15.toNatClampNeg) (σ 1 r15.toNatClampNeg) dX8_townOf_61 rfl rfl rfl h17 rfl ?_
      obtain ⟨e1, e2⟩ := sg_pairE hF
      exact g_iret C hr rfl hQ hsz dX8_townOf_62 e1.symm (by rw [e2])
    rcases sg_iteE hF with ⟨c21, hF⟩ | ⟨c21, hF⟩
    · refine g_tsin (off := 53) C 63 4 dX8_townOf_10 c21 (by decide) (by decide) (by decide) (by decide) ?_
      refine g_aload_n 64 C dX8_townOf_63 rfl rfl rfl ?_
      refine g_iload_n 65 C dX8_townOf_64 rfl rfl rfl ?_
      obtain ⟨r19, q20, hF⟩ := sg_bndE hF
      refine g_callVi 68 C (w2 := (ww_X8 Y ad σ)) (As := [.int x1]) (st := []) (n0 := 1) (ci := 9) (q0 := 0) [0, 1, 2, 3, 4, 5, 6, 7, 8, 9, 10, 11, 12] [] [0, 1, 2, 3, 4, 5, 6, 7, 8, 9, 10, 11, 12] (c_X8_creditsOf l hZ (ad := ad) q20) gX8_townOf_X8_creditsOf ⟨rfl, by decide +kernel, by decide +kernel, rfl⟩ rfl ⟨Nat.le_of_ble_eq_true rfl, Nat.le_of_ble_eq_true rfl⟩ rfl rfl ⟨rfl, rfl, rfl, by decide, rfl, rfl⟩ rfl rfl (Nat.le_of_ble_eq_true rfl) ⟨Nat.le_refl _, Nat.le_refl _⟩ dX8_townOf_65 rfl rfl ?_
      obtain ⟨e1, e2⟩ := sg_pairE hF
      exact g_iret C hr rfl hQ hsz dX8_townOf_68 e1.symm (by rw [e2])
    rcases sg_iteE hF with ⟨c24, hF⟩ | ⟨c24, hF⟩
    · refine g_tsin (off := 59) C 69 5 dX8_townOf_10 c24 (by decide) (by decide) (by decide) (by decide) ?_
      refine g_aload_n 70 C dX8_townOf_69 rfl rfl rfl ?_
      refine g_iload_n 71 C dX8_townOf_70 rfl rfl rfl ?_
      obtain ⟨r22, q23, hF⟩ := sg_bndE hF
      refine g_callVi 74 C (w2 := (ww_X8 Y ad σ)) (As := [.int x1]) (st := []) (n0 := 1) (ci := 9) (q0 := 0) [0, 1, 2, 3, 4, 5, 6, 7, 8, 9, 10, 11, 12] [] [0, 1, 2, 3, 4, 5, 6, 7, 8, 9, 10, 11, 12] (c_X8_treaties l hZ (ad := ad) q23) gX8_townOf_X8_treaties ⟨rfl, by decide +kernel, by decide +kernel, rfl⟩ rfl ⟨Nat.le_of_ble_eq_true rfl, Nat.le_of_ble_eq_true rfl⟩ rfl rfl ⟨rfl, rfl, rfl, by decide, rfl, rfl⟩ rfl rfl (Nat.le_of_ble_eq_true rfl) ⟨Nat.le_refl _, Nat.le_refl _⟩ dX8_townOf_71 rfl rfl ?_
      obtain ⟨e1, e2⟩ := sg_pairE hF
      exact g_iret C hr rfl hQ hsz dX8_townOf_74 e1.symm (by rw [e2])
    rcases sg_iteE hF with ⟨c28, hF⟩ | ⟨c28, hF⟩
    · refine g_tsin (off := 65) C 75 6 dX8_townOf_10 c28 (by decide) (by decide) (by decide) (by decide) ?_
      refine g_aload_n 76 C dX8_townOf_75 rfl rfl rfl ?_
      refine g_iload_n 77 C dX8_townOf_76 rfl rfl rfl ?_
      obtain ⟨r27, τ25, q26, hF⟩ := sg_bnd2E hF
      refine g_callVi 80 C (w2 := (ww_X8 Y ad τ25)) (As := [.int x1]) (st := []) (n0 := 1) (ci := 9) (q0 := 0) [0, 1, 2, 3, 4, 5, 6, 7, 8, 9, 10, 11, 12] [] [0, 1, 2, 3, 4, 5, 6, 7, 8, 9, 10, 11, 12] (c_X8_reached l hZ (ad := ad) q26) gX8_townOf_X8_reached ⟨rfl, by decide +kernel, by decide +kernel, rfl⟩ rfl ⟨Nat.le_of_ble_eq_true rfl, Nat.le_of_ble_eq_true rfl⟩ rfl rfl ⟨rfl, rfl, rfl, by decide, rfl, rfl⟩ rfl rfl (Nat.le_of_ble_eq_true rfl) ⟨Nat.le_refl _, Nat.le_refl _⟩ dX8_townOf_77 rfl rfl ?_
      obtain ⟨e1, e2⟩ := sg_pairE hF
      exact g_iret C hr rfl hQ hsz dX8_townOf_80 e1.symm (by rw [e2])
    have nc6 : Int32.toInt x2 ≠ 0 := sg_neT c6 (by decide)
    have nc10 : Int32.toInt x2 ≠ 1 := sg_neT c10 (by decide)
    have nc14 : Int32.toInt x2 ≠ 2 := sg_neT c14 (by decide)
    have nc18 : Int32.toInt x2 ≠ 3 := sg_neT c18 (by decide)
    have nc21 : Int32.toInt x2 ≠ 4 := sg_neT c21 (by decide)
    have nc24 : Int32.toInt x2 ≠ 5 := sg_neT c24 (by decide)
    have nc28 : Int32.toInt x2 ≠ 6 := sg_neT c28 (by decide)
    refine g_tsout C 81 dX8_townOf_10 (by omega) (by decide) ?_
    refine g_bipush 83 C (-2) dX8_townOf_81 rfl (by decide) ?_
    obtain ⟨e1, e2⟩ := sg_pairE hF
    exact g_iret C hr rfl hQ hsz dX8_townOf_83 e1.symm (by rw [e2])
  · refine g_iconst 8 C (-1) dX8_townOf_7 rfl (by decide) ?_
    obtain ⟨e1, e2⟩ := sg_pairE hF
    exact g_iret C hr rfl hQ hsz dX8_townOf_8 e1.symm (by rw [e2])
theorem kiX8_creditOf_X8 : ∀ w ∈ u_ws RX8 TX8 27, w ∈ wsX8_creditOf := by decide +kernel
theorem kfX8_creditOf_13 : Cond.fieldLink RX8 13 "WeatherMinistryModel" "v" "[I" ∈ wsX8_creditOf := by decide +kernel
def f_X8_creditOf (x1 : Int32) (x2 : Int32) (σ : sg_S) : Option Int32 := sg_bnd (f_X8_isCredit x1 σ) (fun r1 => (if r1 = 0 then some ((-1)) else sg_bnd (f_X8_isIn x2 0 2) (fun r3 => (if r3 = 0 then (if x2 = 3 then sg_bnd (f_X8_in x1 2) (fun r5 => sg_grd (sg_in r5 79) (some ((σ 1 r5.toNatClampNeg) - (σ 1 0)))) else some ((-2))) else sg_bnd (f_X8_in x1 x2) (fun r8 => sg_grd (sg_in r8 79) (some (σ 1 r8.toNatClampNeg)))))))
set_option maxHeartbeats 4000000 in
set_option maxRecDepth 100000 in
theorem c_X8_creditOf (l : Launch) {D : va_G} {Y : Nat → ClassId} {Z : (Nat → Prop) → State → Heap → Prop} (hZ : sg_Zok Z) {ad : Nat → Nat} {σ : sg_S} {x1 x2 : Int32} {r : Int32} (hF : f_X8_creditOf x1 x2 σ = some r) : sg_MI l yX8_creditOf wsX8_creditOf 2 43 D Y Z [.ref (ad 0), .int x1, .int x2] (ww_X8 Y ad σ) r (ww_X8 Y ad σ) := by
  intro sz
  refine sg_enter (own := RX8) (maxL := 3) (ret := (some .int)) (cc := cX8_creditOf) (by decide +kernel) rfl rfl (Nat.le_of_ble_eq_true rfl) hZ ?_
  intro p e s m args below meth c C hr Q hQ hsz
  refine g_lv (lv2 := [(0, .ref (ad 0)), (1, .int x1), (2, .int x2)]) [0, 1, 2] rfl ?_
  rw [f_X8_creditOf] at hF
  refine g_aload_n 1 C dX8_creditOf_0 rfl rfl rfl ?_
  refine g_iload_n 2 C dX8_creditOf_1 rfl rfl rfl ?_
  obtain ⟨r1, q2, hF⟩ := sg_bndE hF
  refine g_callVi 5 C (w2 := (ww_X8 Y ad σ)) (As := [.int x1]) (st := []) (n0 := 1) (ci := 9) (q0 := 0) [0, 1, 2, 3, 4, 5, 6, 7, 8, 9, 10, 11, 12] [] [0, 1, 2, 3, 4, 5, 6, 7, 8, 9, 10, 11, 12] (c_X8_isCredit l hZ (ad := ad) q2) gX8_creditOf_X8_isCredit ⟨rfl, by decide +kernel, by decide +kernel, rfl⟩ rfl ⟨Nat.le_of_ble_eq_true rfl, Nat.le_of_ble_eq_true rfl⟩ rfl rfl ⟨rfl, rfl, rfl, by decide, rfl, rfl⟩ rfl rfl (Nat.le_of_ble_eq_true rfl) ⟨Nat.le_refl _, Nat.le_refl _⟩ dX8_creditOf_2 rfl rfl ?_
  refine g_if_ne 8 10 C dX8_creditOf_5 (by decide) rfl hF (fun hF => ?_) (fun hF => ?_)
  · refine g_iload_n 11 C dX8_creditOf_10 rfl rfl rfl ?_
    refine g_iconst 12 C 0 dX8_creditOf_11 rfl (by decide) ?_
    refine g_iconst 13 C 2 dX8_creditOf_12 rfl (by decide) ?_
    obtain ⟨r3, q4, hF⟩ := sg_bndE hF
    refine g_callSi 16 C (w2 := (ww_X8 Y ad σ)) (As := [.int x2, .int 0, .int 2]) (st := []) (n0 := 3) [] [0, 1, 2, 3, 4, 5, 6, 7, 8, 9, 10, 11, 12] [0, 1, 2, 3, 4, 5, 6, 7, 8, 9, 10, 11, 12] (c_X8_isIn l hZ (ad := ad) (σ := σ) q4) gX8_creditOf_X8_isIn ⟨by decide +kernel, by decide +kernel, rfl⟩ rfl ⟨Nat.le_of_ble_eq_true rfl, Nat.le_of_ble_eq_true rfl⟩ ⟨rfl, rfl, rfl, by decide, rfl, rfl⟩ rfl rfl (Nat.le_of_ble_eq_true rfl) ⟨Nat.le_refl _, Nat.le_refl _⟩ dX8_creditOf_13 rfl rfl ?_
    refine g_if_eq 19 32 C dX8_creditOf_16 (by decide) rfl hF (fun hF => ?_) (fun hF => ?_)
    · refine g_iload_n 33 C dX8_creditOf_32 rfl rfl rfl ?_
      refine g_iconst 34 C 3 dX8_creditOf_33 rfl (by decide) ?_
      refine g_icmp_ne 37 57 C dX8_creditOf_34 (by decide) rfl hF (fun hF => ?_) (fun hF => ?_)
      · refine g_bipush 59 C (-2) dX8_creditOf_57 rfl (by decide) ?_
        have e1 := sg_someE hF
        exact g_iret C hr rfl hQ hsz dX8_creditOf_59 e1.symm rfl
      · refine g_aload_n 38 C dX8_creditOf_37 rfl rfl rfl ?_
        refine g_get 41 C (own := RX8) (C1 := RX8) (T := TX8) 0 8 (.ref (ad 1)) kiX8_creditOf_X8 kfX8_creditOf_13 rfl dX8_creditOf_38 rfl rfl rfl (by decide) rfl ?_
        refine g_iload_n 42 C dX8_creditOf_41 rfl rfl rfl ?_
        refine g_iconst 43 C 2 dX8_creditOf_42 rfl (by decide) ?_
        obtain ⟨r5, q6, hF⟩ := sg_bndE hF
        refine g_callSi 46 C (w2 := (ww_X8 Y ad σ)) (As := [.int x1, .int 2]) (st := [.ref (ad 1)]) (n0 := 2) [] [0, 1, 2, 3, 4, 5, 6, 7, 8, 9, 10, 11, 12] [0, 1, 2, 3, 4, 5, 6, 7, 8, 9, 10, 11, 12] (c_X8_in l hZ (ad := ad) (σ := σ) q6) gX8_creditOf_X8_in ⟨by decide +kernel, by decide +kernel, rfl⟩ rfl ⟨Nat.le_of_ble_eq_true rfl, Nat.le_of_ble_eq_true rfl⟩ ⟨rfl, rfl, rfl, by decide, rfl, rfl⟩ rfl rfl (Nat.le_of_ble_eq_true rfl) ⟨Nat.le_refl _, Nat.le_refl _⟩ dX8_creditOf_43 rfl rfl ?_
        obtain ⟨h7, hF⟩ := sg_grdE hF
        refine g_ialdc 47 C 1 (r5.toNatClampNeg) (σ 1 r5.toNatClampNeg) dX8_creditOf_46 rfl rfl rfl h7 rfl ?_
        refine g_aload_n 48 C dX8_creditOf_47 rfl rfl rfl ?_
        refine g_get 51 C (own := RX8) (C1 := RX8) (T := TX8) 0 8 (.ref (ad 1)) kiX8_creditOf_X8 kfX8_creditOf_13 rfl dX8_creditOf_48 rfl rfl rfl (by decide) rfl ?_
        refine g_iconst 52 C 0 dX8_creditOf_51 rfl (by decide) ?_
        refine g_ialdc 53 C 1 (0) (σ 1 0) dX8_creditOf_52 rfl rfl (by decide) (by decide) rfl ?_
        refine g_isub 54 C dX8_creditOf_53 rfl ?_
        refine g_goto 59 C dX8_creditOf_54 (by decide) ?_
        have e1 := sg_someE hF
        exact g_iret C hr rfl hQ hsz dX8_creditOf_59 e1.symm rfl
    · refine g_aload_n 20 C dX8_creditOf_19 rfl rfl rfl ?_
      refine g_get 23 C (own := RX8) (C1 := RX8) (T := TX8) 0 8 (.ref (ad 1)) kiX8_creditOf_X8 kfX8_creditOf_13 rfl dX8_creditOf_20 rfl rfl rfl (by decide) rfl ?_
      refine g_iload_n 24 C dX8_creditOf_23 rfl rfl rfl ?_
      refine g_iload_n 25 C dX8_creditOf_24 rfl rfl rfl ?_
      obtain ⟨r8, q9, hF⟩ := sg_bndE hF
      refine g_callSi 28 C (w2 := (ww_X8 Y ad σ)) (As := [.int x1, .int x2]) (st := [.ref (ad 1)]) (n0 := 2) [] [0, 1, 2, 3, 4, 5, 6, 7, 8, 9, 10, 11, 12] [0, 1, 2, 3, 4, 5, 6, 7, 8, 9, 10, 11, 12] (c_X8_in l hZ (ad := ad) (σ := σ) q9) gX8_creditOf_X8_in ⟨by decide +kernel, by decide +kernel, rfl⟩ rfl ⟨Nat.le_of_ble_eq_true rfl, Nat.le_of_ble_eq_true rfl⟩ ⟨rfl, rfl, rfl, by decide, rfl, rfl⟩ rfl rfl (Nat.le_of_ble_eq_true rfl) ⟨Nat.le_refl _, Nat.le_refl _⟩ dX8_creditOf_25 rfl rfl ?_
      obtain ⟨h10, hF⟩ := sg_grdE hF
      refine g_ialdc 29 C 1 (r8.toNatClampNeg) (σ 1 r8.toNatClampNeg) dX8_creditOf_28 rfl rfl rfl h10 rfl ?_
      refine g_goto 59 C dX8_creditOf_29 (by decide) ?_
      have e1 := sg_someE hF
      exact g_iret C hr rfl hQ hsz dX8_creditOf_59 e1.symm rfl
  · refine g_iconst 9 C (-1) dX8_creditOf_8 rfl (by decide) ?_
    have e1 := sg_someE hF
    exact g_iret C hr rfl hQ hsz dX8_creditOf_9 e1.symm rfl
theorem kiX8_owes_X8 : ∀ w ∈ u_ws RX8 TX8 27, w ∈ wsX8_owes := by decide +kernel
theorem kfX8_owes_13 : Cond.fieldLink RX8 13 "WeatherMinistryModel" "v" "[I" ∈ wsX8_owes := by decide +kernel
def f_X8_owes_L13 (x1 : Int32) (σ : sg_S) : Nat → Int32 → Int32 → Option Int32
  | 0, _, _ => none
  | nz + 1, z2, z3 => (if z3 < σ 1 1 then sg_bnd (f_X8_in z3 0) (fun r3 => sg_grd (sg_in r3 79) ((if σ 1 r3.toNatClampNeg = x1 then sg_bnd (f_X8_in z3 1) (fun r7 => sg_grd (sg_in r7 79) (sg_let (z2 + (σ 1 r7.toNatClampNeg)) (fun y10 => f_X8_owes_L13 x1 σ nz y10 (z3 + 1)))) else sg_let (z2 + 0) (fun y6 => f_X8_owes_L13 x1 σ nz y6 (z3 + 1))))) else some z2)
def f_X8_owes (x1 : Int32) (σ : sg_S) : Option Int32 := sg_bnd (f_X8_isTown x1) (fun r1 => (if r1 = 0 then some ((-1)) else f_X8_owes_L13 x1 σ 1000 0 0))
set_option maxHeartbeats 4000000 in
set_option maxRecDepth 100000 in
theorem c_X8_owes (l : Launch) {D : va_G} {Y : Nat → ClassId} {Z : (Nat → Prop) → State → Heap → Prop} (hZ : sg_Zok Z) {ad : Nat → Nat} {σ : sg_S} {x1 : Int32} {r : Int32} (hF : f_X8_owes x1 σ = some r) : sg_MI l yX8_owes wsX8_owes 2 42 D Y Z [.ref (ad 0), .int x1] (ww_X8 Y ad σ) r (ww_X8 Y ad σ) := by
  intro sz
  refine sg_enter (own := RX8) (maxL := 4) (ret := (some .int)) (cc := cX8_owes) (by decide +kernel) rfl rfl (Nat.le_of_ble_eq_true rfl) hZ ?_
  intro p e s m args below meth c C hr Q hQ hsz
  refine g_lv (lv2 := [(0, .ref (ad 0)), (1, .int x1)]) [0, 1] rfl ?_
  have K13 : ∀ (nz : Nat), ∀ (z2 : Int32) (z3 : Int32), f_X8_owes_L13 x1 σ nz z2 z3 = some r → sg_G p l e ({ frames := 2, cells := 0, slots := 0, locals := 42 } : Room) s m args below meth c D (va_A (ww_X8 Y ad σ) s.heap.size) 4 0 0 Q 13 [(0, .ref (ad 0)), (1, .int x1), (2, .int z2), (3, .int z3)] [] (ww_X8 Y ad σ) := by
    intro nz
    induction nz with
    | zero =>
      intro z2 z3 hF
      rw [f_X8_owes_L13.eq_1] at hF
      exact nomatch hF
    | succ nz ih =>
      intro z2 z3 hF
      rw [f_X8_owes_L13.eq_2] at hF
      refine g_iload_n 14 C dX8_owes_13 rfl rfl rfl ?_
      refine g_aload_n 15 C dX8_owes_14 rfl rfl rfl ?_
      refine g_get 18 C (own := RX8) (C1 := RX8) (T := TX8) 0 8 (.ref (ad 1)) kiX8_owes_X8 kfX8_owes_13 rfl dX8_owes_15 rfl rfl rfl (by decide) rfl ?_
      refine g_iconst 19 C 1 dX8_owes_18 rfl (by decide) ?_
      refine g_ialdc 20 C 1 (1) (σ 1 1) dX8_owes_19 rfl rfl (by decide) (by decide) rfl ?_
      refine g_icmp_ge 23 60 C dX8_owes_20 (by decide) rfl hF (fun hF => ?_) (fun hF => ?_)
      · refine g_iload_n 61 C dX8_owes_60 rfl rfl rfl ?_
        have e1 := sg_someE hF
        exact g_iret C hr rfl hQ hsz dX8_owes_61 e1.symm rfl
      · refine g_iload_n 24 C dX8_owes_23 rfl rfl rfl ?_
        refine g_aload_n 25 C dX8_owes_24 rfl rfl rfl ?_
        refine g_get 28 C (own := RX8) (C1 := RX8) (T := TX8) 0 8 (.ref (ad 1)) kiX8_owes_X8 kfX8_owes_13 rfl dX8_owes_25 rfl rfl rfl (by decide) rfl ?_
        refine g_iload_n 29 C dX8_owes_28 rfl rfl rfl ?_
        refine g_iconst 30 C 0 dX8_owes_29 rfl (by decide) ?_
        obtain ⟨r3, q4, hF⟩ := sg_bndE hF
        refine g_callSi 33 C (w2 := (ww_X8 Y ad σ)) (As := [.int z3, .int 0]) (st := [.ref (ad 1), .int z2]) (n0 := 2) [] [0, 1, 2, 3, 4, 5, 6, 7, 8, 9, 10, 11, 12] [0, 1, 2, 3, 4, 5, 6, 7, 8, 9, 10, 11, 12] (c_X8_in l hZ (ad := ad) (σ := σ) q4) gX8_owes_X8_in ⟨by decide +kernel, by decide +kernel, rfl⟩ rfl ⟨Nat.le_of_ble_eq_true rfl, Nat.le_of_ble_eq_true rfl⟩ ⟨rfl, rfl, rfl, by decide, rfl, rfl⟩ rfl rfl (Nat.le_of_ble_eq_true rfl) ⟨Nat.le_refl _, Nat.le_refl _⟩ dX8_owes_30 rfl rfl ?_
        obtain ⟨h5, hF⟩ := sg_grdE hF
        refine g_ialdc 34 C 1 (r3.toNatClampNeg) (σ 1 r3.toNatClampNeg) dX8_owes_33 rfl rfl rfl h5 rfl ?_
        refine g_iload_n 35 C dX8_owes_34 rfl rfl rfl ?_
        refine g_icmp_ne 38 51 C dX8_owes_35 (by decide) rfl hF (fun hF => ?_) (fun hF => ?_)
        · refine g_iconst 52 C 0 dX8_owes_51 rfl (by decide) ?_
          refine g_iadd 53 C dX8_owes_52 rfl ?_
          obtain ⟨y6, ey6, hF⟩ := sg_letE hF
          refine g_top ey6 ?_
          refine g_istore_n 54 C [(2, .int y6), (0, .ref (ad 0)), (1, .int x1), (3, .int z3)] dX8_owes_53 rfl rfl (by decide) rfl ?_
          refine g_iinc 57 C 3 (z3 + 1) [(3, .int (z3 + 1)), (2, .int y6), (0, .ref (ad 0)), (1, .int x1)] dX8_owes_54 rfl rfl rfl (by decide) rfl ?_
          refine g_goto 13 C dX8_owes_57 (by decide) ?_
          refine g_lv (lv2 := [(0, .ref (ad 0)), (1, .int x1), (2, .int y6), (3, .int (z3 + 1))]) [2, 3, 1, 0] rfl ?_
          exact ih y6 (z3 + 1) hF
        · refine g_aload_n 39 C dX8_owes_38 rfl rfl rfl ?_
          refine g_get 42 C (own := RX8) (C1 := RX8) (T := TX8) 0 8 (.ref (ad 1)) kiX8_owes_X8 kfX8_owes_13 rfl dX8_owes_39 rfl rfl rfl (by decide) rfl ?_
          refine g_iload_n 43 C dX8_owes_42 rfl rfl rfl ?_
          refine g_iconst 44 C 1 dX8_owes_43 rfl (by decide) ?_
          obtain ⟨r7, q8, hF⟩ := sg_bndE hF
          refine g_callSi 47 C (w2 := (ww_X8 Y ad σ)) (As := [.int z3, .int 1]) (st := [.ref (ad 1), .int z2]) (n0 := 2) [] [0, 1, 2, 3, 4, 5, 6, 7, 8, 9, 10, 11, 12] [0, 1, 2, 3, 4, 5, 6, 7, 8, 9, 10, 11, 12] (c_X8_in l hZ (ad := ad) (σ := σ) q8) gX8_owes_X8_in ⟨by decide +kernel, by decide +kernel, rfl⟩ rfl ⟨Nat.le_of_ble_eq_true rfl, Nat.le_of_ble_eq_true rfl⟩ ⟨rfl, rfl, rfl, by decide, rfl, rfl⟩ rfl rfl (Nat.le_of_ble_eq_true rfl) ⟨Nat.le_refl _, Nat.le_refl _⟩ dX8_owes_44 rfl rfl ?_
          obtain ⟨h9, hF⟩ := sg_grdE hF
          refine g_ialdc 48 C 1 (r7.toNatClampNeg) (σ 1 r7.toNatClampNeg) dX8_owes_47 rfl rfl rfl h9 rfl ?_
          refine g_goto 52 C dX8_owes_48 (by decide) ?_
          refine g_iadd 53 C dX8_owes_52 rfl ?_
          obtain ⟨y10, ey10, hF⟩ := sg_letE hF
          refine g_top ey10 ?_
          refine g_istore_n 54 C [(2, .int y10), (0, .ref (ad 0)), (1, .int x1), (3, .int z3)] dX8_owes_53 rfl rfl (by decide) rfl ?_
          refine g_iinc 57 C 3 (z3 + 1) [(3, .int (z3 + 1)), (2, .int y10), (0, .ref (ad 0)), (1, .int x1)] dX8_owes_54 rfl rfl rfl (by decide) rfl ?_
          refine g_goto 13 C dX8_owes_57 (by decide) ?_
          refine g_lv (lv2 := [(0, .ref (ad 0)), (1, .int x1), (2, .int y10), (3, .int (z3 + 1))]) [2, 3, 1, 0] rfl ?_
          exact ih y10 (z3 + 1) hF
  rw [f_X8_owes] at hF
  refine g_iload_n 1 C dX8_owes_0 rfl rfl rfl ?_
  obtain ⟨r1, q2, hF⟩ := sg_bndE hF
  refine g_callSi 4 C (w2 := (ww_X8 Y ad σ)) (As := [.int x1]) (st := []) (n0 := 1) [] [0, 1, 2, 3, 4, 5, 6, 7, 8, 9, 10, 11, 12] [0, 1, 2, 3, 4, 5, 6, 7, 8, 9, 10, 11, 12] (c_X8_isTown l hZ (ad := ad) (σ := σ) q2) gX8_owes_X8_isTown ⟨by decide +kernel, by decide +kernel, rfl⟩ rfl ⟨Nat.le_of_ble_eq_true rfl, Nat.le_of_ble_eq_true rfl⟩ ⟨rfl, rfl, rfl, by decide, rfl, rfl⟩ rfl rfl (Nat.le_of_ble_eq_true rfl) ⟨Nat.le_refl _, Nat.le_refl _⟩ dX8_owes_1 rfl rfl ?_
  refine g_if_ne 7 9 C dX8_owes_4 (by decide) rfl hF (fun hF => ?_) (fun hF => ?_)
  · refine g_iconst 10 C 0 dX8_owes_9 rfl (by decide) ?_
    refine g_istore_n 11 C [(2, .int 0), (0, .ref (ad 0)), (1, .int x1)] dX8_owes_10 rfl rfl (by decide) rfl ?_
    refine g_iconst 12 C 0 dX8_owes_11 rfl (by decide) ?_
    refine g_istore_n 13 C [(3, .int 0), (2, .int 0), (0, .ref (ad 0)), (1, .int x1)] dX8_owes_12 rfl rfl (by decide) rfl ?_
    refine g_lv (lv2 := [(0, .ref (ad 0)), (1, .int x1), (2, .int 0), (3, .int 0)]) [2, 3, 1, 0] rfl ?_
    exact K13  1000 0 0 hF
  · refine g_iconst 8 C (-1) dX8_owes_7 rfl (by decide) ?_
    have e1 := sg_someE hF
    exact g_iret C hr rfl hQ hsz dX8_owes_8 e1.symm rfl
def f_X8_owesAgain (x1 : Int32) (σ : sg_S) : Option Int32 := sg_bnd (f_X8_owes x1 σ) (fun r1 => some r1)
set_option maxHeartbeats 4000000 in
set_option maxRecDepth 100000 in
theorem c_X8_owesAgain (l : Launch) {D : va_G} {Y : Nat → ClassId} {Z : (Nat → Prop) → State → Heap → Prop} (hZ : sg_Zok Z) {ad : Nat → Nat} {σ : sg_S} {x1 : Int32} {r : Int32} (hF : f_X8_owesAgain x1 σ = some r) : sg_MI l yX8_owesAgain wsX8_owesAgain 3 65 D Y Z [.ref (ad 0), .int x1] (ww_X8 Y ad σ) r (ww_X8 Y ad σ) := by
  intro sz
  refine sg_enter (own := RX8) (maxL := 2) (ret := (some .int)) (cc := cX8_owesAgain) (by decide +kernel) rfl rfl (Nat.le_of_ble_eq_true rfl) hZ ?_
  intro p e s m args below meth c C hr Q hQ hsz
  refine g_lv (lv2 := [(0, .ref (ad 0)), (1, .int x1)]) [0, 1] rfl ?_
  rw [f_X8_owesAgain] at hF
  refine g_aload_n 1 C dX8_owesAgain_0 rfl rfl rfl ?_
  refine g_iload_n 2 C dX8_owesAgain_1 rfl rfl rfl ?_
  obtain ⟨r1, q2, hF⟩ := sg_bndE hF
  refine g_callVi 5 C (w2 := (ww_X8 Y ad σ)) (As := [.int x1]) (st := []) (n0 := 1) (ci := 9) (q0 := 0) [0, 1, 2, 3, 4, 5, 6, 7, 8, 9, 10, 11, 12] [] [0, 1, 2, 3, 4, 5, 6, 7, 8, 9, 10, 11, 12] (c_X8_owes l hZ (ad := ad) q2) gX8_owesAgain_X8_owes ⟨rfl, by decide +kernel, by decide +kernel, rfl⟩ rfl ⟨Nat.le_of_ble_eq_true rfl, Nat.le_of_ble_eq_true rfl⟩ rfl rfl ⟨rfl, rfl, rfl, by decide, rfl, rfl⟩ rfl rfl (Nat.le_of_ble_eq_true rfl) ⟨Nat.le_refl _, Nat.le_refl _⟩ dX8_owesAgain_2 rfl rfl ?_
  have e1 := sg_someE hF
  exact g_iret C hr rfl hQ hsz dX8_owesAgain_5 e1.symm rfl
theorem kiX8_due_X8 : ∀ w ∈ u_ws RX8 TX8 27, w ∈ wsX8_due := by decide +kernel
theorem kfX8_due_13 : Cond.fieldLink RX8 13 "WeatherMinistryModel" "v" "[I" ∈ wsX8_due := by decide +kernel
def f_X8_due_L17 (x1 : Int32) (σ : sg_S) : Nat → Int32 → Int32 → Option Int32
  | 0, _, _ => none
  | nz + 1, z2, z3 => (if z3 < σ 1 1 then sg_bnd (f_X8_in z3 2) (fun r3 => sg_grd (sg_in r3 79) ((if σ 1 r3.toNatClampNeg = (σ 1 0) + x1 then sg_bnd (f_X8_in z3 1) (fun r7 => sg_grd (sg_in r7 79) (sg_let (z2 + (σ 1 r7.toNatClampNeg)) (fun y10 => f_X8_due_L17 x1 σ nz y10 (z3 + 1)))) else sg_let (z2 + 0) (fun y6 => f_X8_due_L17 x1 σ nz y6 (z3 + 1))))) else some z2)
def f_X8_due (x1 : Int32) (σ : sg_S) : Option Int32 := sg_bnd (f_X8_isIn x1 0 6) (fun r1 => (if r1 = 0 then some ((-2)) else f_X8_due_L17 x1 σ 1000 0 0))
set_option maxHeartbeats 4000000 in
set_option maxRecDepth 100000 in
theorem c_X8_due (l : Launch) {D : va_G} {Y : Nat → ClassId} {Z : (Nat → Prop) → State → Heap → Prop} (hZ : sg_Zok Z) {ad : Nat → Nat} {σ : sg_S} {x1 : Int32} {r : Int32} (hF : f_X8_due x1 σ = some r) : sg_MI l yX8_due wsX8_due 1 22 D Y Z [.ref (ad 0), .int x1] (ww_X8 Y ad σ) r (ww_X8 Y ad σ) := by
  intro sz
  refine sg_enter (own := RX8) (maxL := 4) (ret := (some .int)) (cc := cX8_due) (by decide +kernel) rfl rfl (Nat.le_of_ble_eq_true rfl) hZ ?_
  intro p e s m args below meth c C hr Q hQ hsz
  refine g_lv (lv2 := [(0, .ref (ad 0)), (1, .int x1)]) [0, 1] rfl ?_
  have K17 : ∀ (nz : Nat), ∀ (z2 : Int32) (z3 : Int32), f_X8_due_L17 x1 σ nz z2 z3 = some r → sg_G p l e ({ frames := 1, cells := 0, slots := 0, locals := 22 } : Room) s m args below meth c D (va_A (ww_X8 Y ad σ) s.heap.size) 4 0 0 Q 17 [(0, .ref (ad 0)), (1, .int x1), (2, .int z2), (3, .int z3)] [] (ww_X8 Y ad σ) := by
    intro nz
    induction nz with
    | zero =>
      intro z2 z3 hF
      rw [f_X8_due_L17.eq_1] at hF
      exact nomatch hF
    | succ nz ih =>
      intro z2 z3 hF
      rw [f_X8_due_L17.eq_2] at hF
      refine g_iload_n 18 C dX8_due_17 rfl rfl rfl ?_
      refine g_aload_n 19 C dX8_due_18 rfl rfl rfl ?_
      refine g_get 22 C (own := RX8) (C1 := RX8) (T := TX8) 0 8 (.ref (ad 1)) kiX8_due_X8 kfX8_due_13 rfl dX8_due_19 rfl rfl rfl (by decide) rfl ?_
      refine g_iconst 23 C 1 dX8_due_22 rfl (by decide) ?_
      refine g_ialdc 24 C 1 (1) (σ 1 1) dX8_due_23 rfl rfl (by decide) (by decide) rfl ?_
      refine g_icmp_ge 27 71 C dX8_due_24 (by decide) rfl hF (fun hF => ?_) (fun hF => ?_)
      · refine g_iload_n 72 C dX8_due_71 rfl rfl rfl ?_
        have e1 := sg_someE hF
        exact g_iret C hr rfl hQ hsz dX8_due_72 e1.symm rfl
      · refine g_iload_n 28 C dX8_due_27 rfl rfl rfl ?_
        refine g_aload_n 29 C dX8_due_28 rfl rfl rfl ?_
        refine g_get 32 C (own := RX8) (C1 := RX8) (T := TX8) 0 8 (.ref (ad 1)) kiX8_due_X8 kfX8_due_13 rfl dX8_due_29 rfl rfl rfl (by decide) rfl ?_
        refine g_iload_n 33 C dX8_due_32 rfl rfl rfl ?_
        refine g_iconst 34 C 2 dX8_due_33 rfl (by decide) ?_
        obtain ⟨r3, q4, hF⟩ := sg_bndE hF
        refine g_callSi 37 C (w2 := (ww_X8 Y ad σ)) (As := [.int z3, .int 2]) (st := [.ref (ad 1), .int z2]) (n0 := 2) [] [0, 1, 2, 3, 4, 5, 6, 7, 8, 9, 10, 11, 12] [0, 1, 2, 3, 4, 5, 6, 7, 8, 9, 10, 11, 12] (c_X8_in l hZ (ad := ad) (σ := σ) q4) gX8_due_X8_in ⟨by decide +kernel, by decide +kernel, rfl⟩ rfl ⟨Nat.le_of_ble_eq_true rfl, Nat.le_of_ble_eq_true rfl⟩ ⟨rfl, rfl, rfl, by decide, rfl, rfl⟩ rfl rfl (Nat.le_of_ble_eq_true rfl) ⟨Nat.le_refl _, Nat.le_refl _⟩ dX8_due_34 rfl rfl ?_
        obtain ⟨h5, hF⟩ := sg_grdE hF
        refine g_ialdc 38 C 1 (r3.toNatClampNeg) (σ 1 r3.toNatClampNeg) dX8_due_37 rfl rfl rfl h5 rfl ?_
        refine g_aload_n 39 C dX8_due_38 rfl rfl rfl ?_
        refine g_get 42 C (own := RX8) (C1 := RX8) (T := TX8) 0 8 (.ref (ad 1)) kiX8_due_X8 kfX8_due_13 rfl dX8_due_39 rfl rfl rfl (by decide) rfl ?_
        refine g_iconst 43 C 0 dX8_due_42 rfl (by decide) ?_
        refine g_ialdc 44 C 1 (0) (σ 1 0) dX8_due_43 rfl rfl (by decide) (by decide) rfl ?_
        refine g_iload_n 45 C dX8_due_44 rfl rfl rfl ?_
        refine g_iadd 46 C dX8_due_45 rfl ?_
        refine g_icmp_ne 49 62 C dX8_due_46 (by decide) rfl hF (fun hF => ?_) (fun hF => ?_)
        · refine g_iconst 63 C 0 dX8_due_62 rfl (by decide) ?_
          refine g_iadd 64 C dX8_due_63 rfl ?_
          obtain ⟨y6, ey6, hF⟩ := sg_letE hF
          refine g_top ey6 ?_
          refine g_istore_n 65 C [(2, .int y6), (0, .ref (ad 0)), (1, .int x1), (3, .int z3)] dX8_due_64 rfl rfl (by decide) rfl ?_
          refine g_iinc 68 C 3 (z3 + 1) [(3, .int (z3 + 1)), (2, .int y6), (0, .ref (ad 0)), (1, .int x1)] dX8_due_65 rfl rfl rfl (by decide) rfl ?_
          refine g_goto 17 C dX8_due_68 (by decide) ?_
          refine g_lv (lv2 := [(0, .ref (ad 0)), (1, .int x1), (2, .int y6), (3, .int (z3 + 1))]) [2, 3, 1, 0] rfl ?_
          exact ih y6 (z3 + 1) hF
        · refine g_aload_n 50 C dX8_due_49 rfl rfl rfl ?_
          refine g_get 53 C (own := RX8) (C1 := RX8) (T := TX8) 0 8 (.ref (ad 1)) kiX8_due_X8 kfX8_due_13 rfl dX8_due_50 rfl rfl rfl (by decide) rfl ?_
          refine g_iload_n 54 C dX8_due_53 rfl rfl rfl ?_
          refine g_iconst 55 C 1 dX8_due_54 rfl (by decide) ?_
          obtain ⟨r7, q8, hF⟩ := sg_bndE hF
          refine g_callSi 58 C (w2 := (ww_X8 Y ad σ)) (As := [.int z3, .int 1]) (st := [.ref (ad 1), .int z2]) (n0 := 2) [] [0, 1, 2, 3, 4, 5, 6, 7, 8, 9, 10, 11, 12] [0, 1, 2, 3, 4, 5, 6, 7, 8, 9, 10, 11, 12] (c_X8_in l hZ (ad := ad) (σ := σ) q8) gX8_due_X8_in ⟨by decide +kernel, by decide +kernel, rfl⟩ rfl ⟨Nat.le_of_ble_eq_true rfl, Nat.le_of_ble_eq_true rfl⟩ ⟨rfl, rfl, rfl, by decide, rfl, rfl⟩ rfl rfl (Nat.le_of_ble_eq_true rfl) ⟨Nat.le_refl _, Nat.le_refl _⟩ dX8_due_55 rfl rfl ?_
          obtain ⟨h9, hF⟩ := sg_grdE hF
          refine g_ialdc 59 C 1 (r7.toNatClampNeg) (σ 1 r7.toNatClampNeg) dX8_due_58 rfl rfl rfl h9 rfl ?_
          refine g_goto 63 C dX8_due_59 (by decide) ?_
          refine g_iadd 64 C dX8_due_63 rfl ?_
          obtain ⟨y10, ey10, hF⟩ := sg_letE hF
          refine g_top ey10 ?_
          refine g_istore_n 65 C [(2, .int y10), (0, .ref (ad 0)), (1, .int x1), (3, .int z3)] dX8_due_64 rfl rfl (by decide) rfl ?_
          refine g_iinc 68 C 3 (z3 + 1) [(3, .int (z3 + 1)), (2, .int y10), (0, .ref (ad 0)), (1, .int x1)] dX8_due_65 rfl rfl rfl (by decide) rfl ?_
          refine g_goto 17 C dX8_due_68 (by decide) ?_
          refine g_lv (lv2 := [(0, .ref (ad 0)), (1, .int x1), (2, .int y10), (3, .int (z3 + 1))]) [2, 3, 1, 0] rfl ?_
          exact ih y10 (z3 + 1) hF
  rw [f_X8_due] at hF
  refine g_iload_n 1 C dX8_due_0 rfl rfl rfl ?_
  refine g_iconst 2 C 0 dX8_due_1 rfl (by decide) ?_
  refine g_bipush 4 C 6 dX8_due_2 rfl (by decide) ?_
  obtain ⟨r1, q2, hF⟩ := sg_bndE hF
  refine g_callSi 7 C (w2 := (ww_X8 Y ad σ)) (As := [.int x1, .int 0, .int 6]) (st := []) (n0 := 3) [] [0, 1, 2, 3, 4, 5, 6, 7, 8, 9, 10, 11, 12] [0, 1, 2, 3, 4, 5, 6, 7, 8, 9, 10, 11, 12] (c_X8_isIn l hZ (ad := ad) (σ := σ) q2) gX8_due_X8_isIn ⟨by decide +kernel, by decide +kernel, rfl⟩ rfl ⟨Nat.le_of_ble_eq_true rfl, Nat.le_of_ble_eq_true rfl⟩ ⟨rfl, rfl, rfl, by decide, rfl, rfl⟩ rfl rfl (Nat.le_of_ble_eq_true rfl) ⟨Nat.le_refl _, Nat.le_refl _⟩ dX8_due_4 rfl rfl ?_
  refine g_if_ne 10 13 C dX8_due_7 (by decide) rfl hF (fun hF => ?_) (fun hF => ?_)
  · refine g_iconst 14 C 0 dX8_due_13 rfl (by decide) ?_
    refine g_istore_n 15 C [(2, .int 0), (0, .ref (ad 0)), (1, .int x1)] dX8_due_14 rfl rfl (by decide) rfl ?_
    refine g_iconst 16 C 0 dX8_due_15 rfl (by decide) ?_
    refine g_istore_n 17 C [(3, .int 0), (2, .int 0), (0, .ref (ad 0)), (1, .int x1)] dX8_due_16 rfl rfl (by decide) rfl ?_
    refine g_lv (lv2 := [(0, .ref (ad 0)), (1, .int x1), (2, .int 0), (3, .int 0)]) [2, 3, 1, 0] rfl ?_
    exact K17  1000 0 0 hF
  · refine g_bipush 12 C (-2) dX8_due_10 rfl (by decide) ?_
    have e1 := sg_someE hF
    exact g_iret C hr rfl hQ hsz dX8_due_12 e1.symm rfl
theorem kiX8_far_X8 : ∀ w ∈ u_ws RX8 TX8 27, w ∈ wsX8_far := by decide +kernel
theorem kfX8_far_32 : Cond.fieldLink RX8 32 "WeatherMinistryModel" "away" "[I" ∈ wsX8_far := by decide +kernel
def f_X8_far (x1 : Int32) (x2 : Int32) (σ : sg_S) : Option (Int32 × sg_S) := sg_bnd (f_X8_isTown x1) (fun r1 => (if r1 = 0 then some ((-1), σ) else sg_bnd (f_X8_isTown x2) (fun r3 => (if r3 = 0 then some ((-1), σ) else sg_bnd (f_X8_finds x1 σ) (fun τ5 => sg_grd (sg_in x2 5) ((if τ5 7 x2.toNatClampNeg < 0 then some ((-6), τ5) else some (τ5 7 x2.toNatClampNeg, τ5))))))))
set_option maxHeartbeats 4000000 in
set_option maxRecDepth 100000 in
theorem c_X8_far (l : Launch) {D : va_G} {Y : Nat → ClassId} {Z : (Nat → Prop) → State → Heap → Prop} (hZ : sg_Zok Z) {ad : Nat → Nat} {σ : sg_S} {σ' : sg_S} {x1 x2 : Int32} {r : Int32} (hF : f_X8_far x1 x2 σ = some (r, σ')) : sg_MI l yX8_far wsX8_far 2 42 D Y Z [.ref (ad 0), .int x1, .int x2] (ww_X8 Y ad σ) r (ww_X8 Y ad σ') := by
  intro sz
  refine sg_enter (own := RX8) (maxL := 3) (ret := (some .int)) (cc := cX8_far) (by decide +kernel) rfl rfl (Nat.le_of_ble_eq_true rfl) hZ ?_
  intro p e s m args below meth c C hr Q hQ hsz
  refine g_lv (lv2 := [(0, .ref (ad 0)), (1, .int x1), (2, .int x2)]) [0, 1, 2] rfl ?_
  rw [f_X8_far] at hF
  refine g_iload_n 1 C dX8_far_0 rfl rfl rfl ?_
  obtain ⟨r1, q2, hF⟩ := sg_bndE hF
  refine g_callSi 4 C (w2 := (ww_X8 Y ad σ)) (As := [.int x1]) (st := []) (n0 := 1) [] [0, 1, 2, 3, 4, 5, 6, 7, 8, 9, 10, 11, 12] [0, 1, 2, 3, 4, 5, 6, 7, 8, 9, 10, 11, 12] (c_X8_isTown l hZ (ad := ad) (σ := σ) q2) gX8_far_X8_isTown ⟨by decide +kernel, by decide +kernel, rfl⟩ rfl ⟨Nat.le_of_ble_eq_true rfl, Nat.le_of_ble_eq_true rfl⟩ ⟨rfl, rfl, rfl, by decide, rfl, rfl⟩ rfl rfl (Nat.le_of_ble_eq_true rfl) ⟨Nat.le_refl _, Nat.le_refl _⟩ dX8_far_1 rfl rfl ?_
  refine g_if_eq 7 14 C dX8_far_4 (by decide) rfl hF (fun hF => ?_) (fun hF => ?_)
  · refine g_iconst 15 C (-1) dX8_far_14 rfl (by decide) ?_
    obtain ⟨e1, e2⟩ := sg_pairE hF
    exact g_iret C hr rfl hQ hsz dX8_far_15 e1.symm (by rw [e2])
  · refine g_iload_n 8 C dX8_far_7 rfl rfl rfl ?_
    obtain ⟨r3, q4, hF⟩ := sg_bndE hF
    refine g_callSi 11 C (w2 := (ww_X8 Y ad σ)) (As := [.int x2]) (st := []) (n0 := 1) [] [0, 1, 2, 3, 4, 5, 6, 7, 8, 9, 10, 11, 12] [0, 1, 2, 3, 4, 5, 6, 7, 8, 9, 10, 11, 12] (c_X8_isTown l hZ (ad := ad) (σ := σ) q4) gX8_far_X8_isTown ⟨by decide +kernel, by decide +kernel, rfl⟩ rfl ⟨Nat.le_of_ble_eq_true rfl, Nat.le_of_ble_eq_true rfl⟩ ⟨rfl, rfl, rfl, by decide, rfl, rfl⟩ rfl rfl (Nat.le_of_ble_eq_true rfl) ⟨Nat.le_refl _, Nat.le_refl _⟩ dX8_far_8 rfl rfl ?_
    refine g_if_ne 14 16 C dX8_far_11 (by decide) rfl hF (fun hF => ?_) (fun hF => ?_)
    · refine g_aload_n 17 C dX8_far_16 rfl rfl rfl ?_
      refine g_iload_n 18 C dX8_far_17 rfl rfl rfl ?_
      obtain ⟨τ5, q6, hF⟩ := sg_bndE hF
      refine g_callVv 21 C (w2 := (ww_X8 Y ad τ5)) (As := [.int x1]) (st := []) (n0 := 1) (ci := 9) (q0 := 0) [0, 1, 2, 3, 4, 5, 6, 7, 8, 9, 10, 11, 12] [] [0, 1, 2, 3, 4, 5, 6, 7, 8, 9, 10, 11, 12] (c_X8_finds l hZ (ad := ad) q6) gX8_far_X8_finds ⟨rfl, by decide +kernel, by decide +kernel, rfl⟩ rfl ⟨Nat.le_of_ble_eq_true rfl, Nat.le_of_ble_eq_true rfl⟩ rfl rfl ⟨rfl, rfl, rfl, by decide, rfl, rfl⟩ rfl rfl (Nat.le_of_ble_eq_true rfl) ⟨Nat.le_refl _, Nat.le_refl _⟩ dX8_far_18 rfl rfl ?_
      refine g_aload_n 22 C dX8_far_21 rfl rfl rfl ?_
      refine g_get 25 C (own := RX8) (C1 := RX8) (T := TX8) 0 14 (.ref (ad 7)) kiX8_far_X8 kfX8_far_32 rfl dX8_far_22 rfl rfl rfl (by decide) rfl ?_
      refine g_iload_n 26 C dX8_far_25 rfl rfl rfl ?_
      obtain ⟨h7, hF⟩ := sg_grdE hF
      refine g_ialdc 27 C 7 (x2.toNatClampNeg) (τ5 7 x2.toNatClampNeg) dX8_far_26 rfl rfl rfl h7 rfl ?_
      refine g_if_ge 30 35 C dX8_far_27 (by decide) rfl hF (fun hF => ?_) (fun hF => ?_)
      · refine g_aload_n 36 C dX8_far_35 rfl rfl rfl ?_
        refine g_get 39 C (own := RX8) (C1 := RX8) (T := TX8) 0 14 (.ref (ad 7)) kiX8_far_X8 kfX8_far_32 rfl dX8_far_36 rfl rfl rfl (by decide) rfl ?_
        refine g_iload_n 40 C dX8_far_39 rfl rfl rfl ?_
        refine g_ialdc 41 C 7 (x2.toNatClampNeg) (τ5 7 x2.toNatClampNeg) dX8_far_40 rfl rfl rfl h7 rfl ?_
        obtain ⟨e1, e2⟩ := sg_pairE hF
        exact g_iret C hr rfl hQ hsz dX8_far_41 e1.symm (by rw [e2])
      · refine g_bipush 32 C (-6) dX8_far_30 rfl (by decide) ?_
        refine g_goto 41 C dX8_far_32 (by decide) ?_
        obtain ⟨e1, e2⟩ := sg_pairE hF
        exact g_iret C hr rfl hQ hsz dX8_far_41 e1.symm (by rw [e2])
    · refine g_iconst 15 C (-1) dX8_far_14 rfl (by decide) ?_
      obtain ⟨e1, e2⟩ := sg_pairE hF
      exact g_iret C hr rfl hQ hsz dX8_far_15 e1.symm (by rw [e2])
def f_X8_drizzle (x1 : Int32) (x2 : Int32) (x3 : Int32) (σ : sg_S) : Option (Int32 × sg_S) := sg_bnd (f_X8_isTown x1) (fun r1 => (if r1 = 0 then some ((-1), σ) else sg_bnd (f_X8_isTown x3) (fun r3 => (if r3 = 0 then some ((-1), σ) else sg_bnd (f_X8_isIn x2 1 20) (fun r5 => (if r5 = 0 then some ((-2), σ) else sg_bnd (f_X8_finds x1 σ) (fun τ7 => sg_bnd (f_X8_share x3 x2 τ7) (fun r9 => some (r9, τ7)))))))))
set_option maxHeartbeats 4000000 in
set_option maxRecDepth 100000 in
theorem c_X8_drizzle (l : Launch) {D : va_G} {Y : Nat → ClassId} {Z : (Nat → Prop) → State → Heap → Prop} (hZ : sg_Zok Z) {ad : Nat → Nat} {σ : sg_S} {σ' : sg_S} {x1 x2 x3 : Int32} {r : Int32} (hF : f_X8_drizzle x1 x2 x3 σ = some (r, σ')) : sg_MI l yX8_drizzle wsX8_drizzle 2 42 D Y Z [.ref (ad 0), .int x1, .int x2, .int x3] (ww_X8 Y ad σ) r (ww_X8 Y ad σ') := by
  intro sz
  refine sg_enter (own := RX8) (maxL := 4) (ret := (some .int)) (cc := cX8_drizzle) (by decide +kernel) rfl rfl (Nat.le_of_ble_eq_true rfl) hZ ?_
  intro p e s m args below meth c C hr Q hQ hsz
  refine g_lv (lv2 := [(0, .ref (ad 0)), (1, .int x1), (2, .int x2), (3, .int x3)]) [0, 1, 2, 3] rfl ?_
  rw [f_X8_drizzle] at hF
  refine g_iload_n 1 C dX8_drizzle_0 rfl rfl rfl ?_
  obtain ⟨r1, q2, hF⟩ := sg_bndE hF
  refine g_callSi 4 C (w2 := (ww_X8 Y ad σ)) (As := [.int x1]) (st := []) (n0 := 1) [] [0, 1, 2, 3, 4, 5, 6, 7, 8, 9, 10, 11, 12] [0, 1, 2, 3, 4, 5, 6, 7, 8, 9, 10, 11, 12] (c_X8_isTown l hZ (ad := ad) (σ := σ) q2) gX8_drizzle_X8_isTown ⟨by decide +kernel, by decide +kernel, rfl⟩ rfl ⟨Nat.le_of_ble_eq_true rfl, Nat.le_of_ble_eq_true rfl⟩ ⟨rfl, rfl, rfl, by decide, rfl, rfl⟩ rfl rfl (Nat.le_of_ble_eq_true rfl) ⟨Nat.le_refl _, Nat.le_refl _⟩ dX8_drizzle_1 rfl rfl ?_
  refine g_if_eq 7 14 C dX8_drizzle_4 (by decide) rfl hF (fun hF => ?_) (fun hF => ?_)
  · refine g_iconst 15 C (-1) dX8_drizzle_14 rfl (by decide) ?_
    obtain ⟨e1, e2⟩ := sg_pairE hF
    exact g_iret C hr rfl hQ hsz dX8_drizzle_15 e1.symm (by rw [e2])
  · refine g_iload_n 8 C dX8_drizzle_7 rfl rfl rfl ?_
    obtain ⟨r3, q4, hF⟩ := sg_bndE hF
    refine g_callSi 11 C (w2 := (ww_X8 Y ad σ)) (As := [.int x3]) (st := []) (n0 := 1) [] [0, 1, 2, 3, 4, 5, 6, 7, 8, 9, 10, 11, 12] [0, 1, 2, 3, 4, 5, 6, 7, 8, 9, 10, 11, 12] (c_X8_isTown l hZ (ad := ad) (σ := σ) q4) gX8_drizzle_X8_isTown ⟨by decide +kernel, by decide +kernel, rfl⟩ rfl ⟨Nat.le_of_ble_eq_true rfl, Nat.le_of_ble_eq_true rfl⟩ ⟨rfl, rfl, rfl, by decide, rfl, rfl⟩ rfl rfl (Nat.le_of_ble_eq_true rfl) ⟨Nat.le_refl _, Nat.le_refl _⟩ dX8_drizzle_8 rfl rfl ?_
    refine g_if_ne 14 16 C dX8_drizzle_11 (by decide) rfl hF (fun hF => ?_) (fun hF => ?_)
    · refine g_iload_n 17 C dX8_drizzle_16 rfl rfl rfl ?_
      refine g_iconst 18 C 1 dX8_drizzle_17 rfl (by decide) ?_
      refine g_bipush 20 C 20 dX8_drizzle_18 rfl (by decide) ?_
      obtain ⟨r5, q6, hF⟩ := sg_bndE hF
      refine g_callSi 23 C (w2 := (ww_X8 Y ad σ)) (As := [.int x2, .int 1, .int 20]) (st := []) (n0 := 3) [] [0, 1, 2, 3, 4, 5, 6, 7, 8, 9, 10, 11, 12] [0, 1, 2, 3, 4, 5, 6, 7, 8, 9, 10, 11, 12] (c_X8_isIn l hZ (ad := ad) (σ := σ) q6) gX8_drizzle_X8_isIn ⟨by decide +kernel, by decide +kernel, rfl⟩ rfl ⟨Nat.le_of_ble_eq_true rfl, Nat.le_of_ble_eq_true rfl⟩ ⟨rfl, rfl, rfl, by decide, rfl, rfl⟩ rfl rfl (Nat.le_of_ble_eq_true rfl) ⟨Nat.le_refl _, Nat.le_refl _⟩ dX8_drizzle_20 rfl rfl ?_
      refine g_if_ne 26 29 C dX8_drizzle_23 (by decide) rfl hF (fun hF => ?_) (fun hF => ?_)
      · refine g_aload_n 30 C dX8_drizzle_29 rfl rfl rfl ?_
        refine g_iload_n 31 C dX8_drizzle_30 rfl rfl rfl ?_
        obtain ⟨τ7, q8, hF⟩ := sg_bndE hF
        refine g_callVv 34 C (w2 := (ww_X8 Y ad τ7)) (As := [.int x1]) (st := []) (n0 := 1) (ci := 9) (q0 := 0) [0, 1, 2, 3, 4, 5, 6, 7, 8, 9, 10, 11, 12] [] [0, 1, 2, 3, 4, 5, 6, 7, 8, 9, 10, 11, 12] (c_X8_finds l hZ (ad := ad) q8) gX8_drizzle_X8_finds ⟨rfl, by decide +kernel, by decide +kernel, rfl⟩ rfl ⟨Nat.le_of_ble_eq_true rfl, Nat.le_of_ble_eq_true rfl⟩ rfl rfl ⟨rfl, rfl, rfl, by decide, rfl, rfl⟩ rfl rfl (Nat.le_of_ble_eq_true rfl) ⟨Nat.le_refl _, Nat.le_refl _⟩ dX8_drizzle_31 rfl rfl ?_
        refine g_aload_n 35 C dX8_drizzle_34 rfl rfl rfl ?_
        refine g_iload_n 36 C dX8_drizzle_35 rfl rfl rfl ?_
        refine g_iload_n 37 C dX8_drizzle_36 rfl rfl rfl ?_
        obtain ⟨r9, q10, hF⟩ := sg_bndE hF
        refine g_callVi 40 C (w2 := (ww_X8 Y ad τ7)) (As := [.int x3, .int x2]) (st := []) (n0 := 2) (ci := 9) (q0 := 0) [0, 1, 2, 3, 4, 5, 6, 7, 8, 9, 10, 11, 12] [] [0, 1, 2, 3, 4, 5, 6, 7, 8, 9, 10, 11, 12] (c_X8_share l hZ (ad := ad) q10) gX8_drizzle_X8_share ⟨rfl, by decide +kernel, by decide +kernel, rfl⟩ rfl ⟨Nat.le_of_ble_eq_true rfl, Nat.le_of_ble_eq_true rfl⟩ rfl rfl ⟨rfl, rfl, rfl, by decide, rfl, rfl⟩ rfl rfl (Nat.le_of_ble_eq_true rfl) ⟨Nat.le_refl _, Nat.le_refl _⟩ dX8_drizzle_37 rfl rfl ?_
        obtain ⟨e1, e2⟩ := sg_pairE hF
        exact g_iret C hr rfl hQ hsz dX8_drizzle_40 e1.symm (by rw [e2])
      · refine g_bipush 28 C (-2) dX8_drizzle_26 rfl (by decide) ?_
        obtain ⟨e1, e2⟩ := sg_pairE hF
        exact g_iret C hr rfl hQ hsz dX8_drizzle_28 e1.symm (by rw [e2])
    · refine g_iconst 15 C (-1) dX8_drizzle_14 rfl (by decide) ?_
      obtain ⟨e1, e2⟩ := sg_pairE hF
      exact g_iret C hr rfl hQ hsz dX8_drizzle_15 e1.symm (by rw [e2])
def f_X8_drizzleAgain (x1 : Int32) (x2 : Int32) (x3 : Int32) (σ : sg_S) : Option (Int32 × sg_S) := sg_bnd2 (f_X8_drizzle x1 x2 x3 σ) (fun r3 τ1 => some (r3, τ1))
set_option maxHeartbeats 4000000 in
set_option maxRecDepth 100000 in
theorem c_X8_drizzleAgain (l : Launch) {D : va_G} {Y : Nat → ClassId} {Z : (Nat → Prop) → State → Heap → Prop} (hZ : sg_Zok Z) {ad : Nat → Nat} {σ : sg_S} {σ' : sg_S} {x1 x2 x3 : Int32} {r : Int32} (hF : f_X8_drizzleAgain x1 x2 x3 σ = some (r, σ')) : sg_MI l yX8_drizzleAgain wsX8_drizzleAgain 3 65 D Y Z [.ref (ad 0), .int x1, .int x2, .int x3] (ww_X8 Y ad σ) r (ww_X8 Y ad σ') := by
  intro sz
  refine sg_enter (own := RX8) (maxL := 4) (ret := (some .int)) (cc := cX8_drizzleAgain) (by decide +kernel) rfl rfl (Nat.le_of_ble_eq_true rfl) hZ ?_
  intro p e s m args below meth c C hr Q hQ hsz
  refine g_lv (lv2 := [(0, .ref (ad 0)), (1, .int x1), (2, .int x2), (3, .int x3)]) [0, 1, 2, 3] rfl ?_
  rw [f_X8_drizzleAgain] at hF
  refine g_aload_n 1 C dX8_drizzleAgain_0 rfl rfl rfl ?_
  refine g_iload_n 2 C dX8_drizzleAgain_1 rfl rfl rfl ?_
  refine g_iload_n 3 C dX8_drizzleAgain_2 rfl rfl rfl ?_
  refine g_iload_n 4 C dX8_drizzleAgain_3 rfl rfl rfl ?_
  obtain ⟨r3, τ1, q2, hF⟩ := sg_bnd2E hF
  refine g_callVi 7 C (w2 := (ww_X8 Y ad τ1)) (As := [.int x1, .int x2, .int x3]) (st := []) (n0 := 3) (ci := 9) (q0 := 0) [0, 1, 2, 3, 4, 5, 6, 7, 8, 9, 10, 11, 12] [] [0, 1, 2, 3, 4, 5, 6, 7, 8, 9, 10, 11, 12] (c_X8_drizzle l hZ (ad := ad) q2) gX8_drizzleAgain_X8_drizzle ⟨rfl, by decide +kernel, by decide +kernel, rfl⟩ rfl ⟨Nat.le_of_ble_eq_true rfl, Nat.le_of_ble_eq_true rfl⟩ rfl rfl ⟨rfl, rfl, rfl, by decide, rfl, rfl⟩ rfl rfl (Nat.le_of_ble_eq_true rfl) ⟨Nat.le_refl _, Nat.le_refl _⟩ dX8_drizzleAgain_4 rfl rfl ?_
  obtain ⟨e1, e2⟩ := sg_pairE hF
  exact g_iret C hr rfl hQ hsz dX8_drizzleAgain_7 e1.symm (by rw [e2])
