/-! THE LAW: what is done -/
theorem kb_ch {σ σ2 : sg_S} (h : fr_F fs_ch σ σ2) : sg_mg kb_TNLBH σ σ2 = σ2 := by
  refine sl_mgE (fun p k hp => h p k ?_)
  unfold kb_TNLBH at hp
  rw [nb_ble, nb_ble, nb_ble] at hp
  simp only [Bool.or_eq_false_iff, Bool.and_eq_false_iff, decide_eq_false_iff_not] at hp
  unfold fs_ch
  omega
section KC
variable {m c : Nat} {w : Nat → Nat} {σ : sg_S}
abbrev cl_T (m : Nat) (w : Nat → Nat) (c : Nat) (σ : sg_S) (r : Int32) (σ2 : sg_S) : Prop := cl_C m w c σ (fun _ _ => True) (fun _ => True) r σ2
theorem kc_treaty (h : cl_A m w c σ) (hm : m < 9000) (x y z : Int32) : ∃ r σ2, f_X7_treaty x y z σ = some (r, σ2) ∧ cl_T m w c σ r σ2 := by
  unfold f_X7_treaty
  by_cases hz : z = 0
  · obtain ⟨r, σ2, e, h2⟩ := cl_Cany h hm (k := 1) (by decide) x y 0
    have e : f_X7_change 1 x y 0 σ = some (r, σ2) := e
    exact ⟨r, σ2, by rw [if_pos hz, e]; rfl, h2⟩
  · obtain ⟨r, σ2, e, h2⟩ := cl_Cany h hm (k := 0) (by decide) x y 0
    have e : f_X7_change 0 x y 0 σ = some (r, σ2) := e
    exact ⟨r, σ2, by rw [if_neg hz, e]; rfl, h2⟩
theorem kc_credit (h : cl_A m w c σ) (hm : m < 9000) (x1 x2 x3 : Int32) : ∃ r σ2, f_X7_credit x1 x2 x3 σ = some (r, σ2) ∧ cl_T m w c σ r σ2 := by
  unfold f_X7_credit
  obtain ⟨r, σ2, e, h2⟩ := cl_Cany h hm (k := 2) (by decide) x1 x2 x3
  have e : f_X7_change 2 x1 x2 x3 σ = some (r, σ2) := e
  exact ⟨r, σ2, by rw [e]; rfl, h2⟩
theorem kc_repay (h : cl_A m w c σ) (hm : m < 9000) (x1 : Int32) : ∃ r σ2, f_X7_repay x1 σ = some (r, σ2) ∧ cl_T m w c σ r σ2 := by
  unfold f_X7_repay
  obtain ⟨r, σ2, e, h2⟩ := cl_Cany h hm (k := 3) (by decide) x1 0 0
  have e : f_X7_change 3 x1 0 0 σ = some (r, σ2) := e
  exact ⟨r, σ2, by rw [e]; rfl, h2⟩
theorem kc_rain (h : cl_A m w c σ) (hm : m < 9000) (x1 x2 : Int32) : ∃ r σ2, f_X7_rain x1 x2 σ = some (r, σ2) ∧ cl_T m w c σ r σ2 := by
  unfold f_X7_rain
  obtain ⟨r, σ2, e, h2⟩ := cl_Cany h hm (k := 4) (by decide) x1 x2 0
  have e : f_X7_change 4 x1 x2 0 σ = some (r, σ2) := e
  exact ⟨r, σ2, by rw [e]; rfl, h2⟩
theorem kc_bail (h : cl_A m w c σ) (hm : m < 9000) (x1 x2 : Int32) : ∃ r σ2, f_X7_bail x1 x2 σ = some (r, σ2) ∧ cl_T m w c σ r σ2 := by
  unfold f_X7_bail
  obtain ⟨r, σ2, e, h2⟩ := cl_Cany h hm (k := 5) (by decide) x1 x2 0
  have e : f_X7_change 5 x1 x2 0 σ = some (r, σ2) := e
  exact ⟨r, σ2, by rw [e]; rfl, h2⟩
theorem kc_buy (h : cl_A m w c σ) (hm : m < 9000) (x1 : Int32) : ∃ r σ2, f_X7_buy x1 σ = some (r, σ2) ∧ cl_T m w c σ r σ2 := by
  unfold f_X7_buy
  obtain ⟨r, σ2, e, h2⟩ := cl_Cany h hm (k := 6) (by decide) x1 0 0
  have e : f_X7_change 6 x1 0 0 σ = some (r, σ2) := e
  exact ⟨r, σ2, by rw [e]; rfl, h2⟩
theorem kc_month (h : cl_A m w c σ) (hm : m < 9000) : ∃ r σ2, f_X7_month  σ = some (r, σ2) ∧ cl_T m w c σ r σ2 := by
  unfold f_X7_month
  obtain ⟨r, σ2, e, h2⟩ := cl_Cany h hm (k := 7) (by decide) 0 0 0
  have e : f_X7_change 7 0 0 0 σ = some (r, σ2) := e
  exact ⟨r, σ2, by rw [e]; rfl, h2⟩
end KC
set_option maxHeartbeats 4000000 in
set_option maxRecDepth 100000 in
theorem k_acts (l : Launch) {D : va_G} {Y : Nat → ClassId} {Z : (Nat → Prop) → State → Heap → Prop} (hZ : sg_Zok Z) {ad : Nat → Nat} {σ : sg_S} {m0 c0 : Nat} {w : Nat → Nat} (hA : cl_A m0 w c0 σ) (hm : m0 < 9000) {a y : Nat} {v : Int32} (hy : y < 2147483648) : sg_XI l yL_acts wsL_acts 8 200 0 0 D Y Z [.ref (ad 0), .int (nb y), .ref a] (sl_w Y ad σ (bx_W a v ++ [])) (fun (r : Int32) (u : sg_S × Int32) => cl_T m0 w c0 σ r u.1) (fun u => sl_w Y ad u.1 (bx_W a u.2 ++ [])) := by
  intro sz
  refine sg_enterX (own := RL) (maxL := 4) (ret := (some .int)) (cc := cL_acts) (by decide +kernel) rfl rfl (Nat.le_of_ble_eq_true rfl) hZ ?_
  intro p e s m args below meth c C hr hin Q hQ hsz
  refine g_lv (lv2 := [(0, .ref (ad 0)), (1, .int (nb y)), (2, .ref a)]) [0, 1, 2] rfl ?_
  refine g_aload_n 1 C dL_acts_0 rfl rfl rfl ?_
  refine g_iconst 2 C (nb 5) dL_acts_1 rfl (by decide) ?_
  refine lb_some 5 C gL_acts_L_some ⟨(Nat.le_of_ble_eq_true rfl), (Nat.le_of_ble_eq_true rfl)⟩ (Nat.le_of_ble_eq_true rfl) (by decide) ⟨(Nat.le_of_ble_eq_true rfl), (Nat.le_of_ble_eq_true rfl)⟩ dL_acts_2 rfl (fun r1 u1 hr1 => ?_)
  refine g_istore_n 6 C [(3, .int (nb r1)), (0, .ref (ad 0)), (1, .int (nb y)), (2, .ref a)] dL_acts_5 rfl rfl (by decide) rfl ?_
  refine g_iload_n 7 C dL_acts_6 rfl rfl rfl ?_
  refine g_bipush 9 C (nb 28) dL_acts_7 rfl (by decide) ?_
  refine g_iremc 10 C dL_acts_9 rfl (by decide) ?_
  refine g_top (v := (nb (y % 28))) (bx_rem (by omega) (by decide)).symm ?_
  have K108 : sg_G p l e { frames := 8, cells := 0, slots := 0, locals := 200 } s m args below meth c D (va_A (sl_w Y ad σ (bx_W a v ++ [])) s.heap.size) 4 0 0 Q 108 [(3, .int (nb r1)), (0, .ref (ad 0)), (1, .int (nb y)), (2, .ref a)] [] (sl_w Y ad σ (bx_W a u1 ++ [])) := by
    refine g_aload_n 109 C dL_acts_108 rfl rfl rfl ?_
    refine g_iload_n 110 C dL_acts_109 rfl rfl rfl ?_
    refine g_aload_n 111 C dL_acts_110 rfl rfl rfl ?_
    refine g_iconst 112 C (nb 5) dL_acts_111 rfl (by decide) ?_
    refine lb_some 115 C gL_acts_L_some ⟨(Nat.le_of_ble_eq_true rfl), (Nat.le_of_ble_eq_true rfl)⟩ (Nat.le_of_ble_eq_true rfl) (by decide) ⟨(Nat.le_of_ble_eq_true rfl), (Nat.le_of_ble_eq_true rfl)⟩ dL_acts_112 rfl (fun r2 u2 hr2 => ?_)
    refine g_aload_n 116 C dL_acts_115 rfl rfl rfl ?_
    refine g_iconst 117 C (nb 4) dL_acts_116 rfl (by decide) ?_
    refine lb_next 120 C gL_acts_X8_next ⟨(Nat.le_of_ble_eq_true rfl), (Nat.le_of_ble_eq_true rfl)⟩ (Nat.le_of_ble_eq_true rfl) (by decide) (by decide) ⟨(Nat.le_of_ble_eq_true rfl), (Nat.le_of_ble_eq_true rfl)⟩ dL_acts_117 rfl (fun r3 u3 hr3 => ?_)
    by_cases er3 : r3 = 0
    · skip
      refine g_if_le 123 127 C dL_acts_120 (by decide) rfl (T := some ()) (E := none) (v := ()) (if_neg (by rw [er3]; decide)) (fun _ => ?_) (fun h => by cases h)
      refine g_iconst 128 C (nb 0) dL_acts_127 rfl (by decide) ?_
      obtain ⟨r, σ2, e7, hC⟩ := kc_treaty hA hm (nb r1) (nb r2) (nb 0)
      refine lc_treaty 131 C gL_acts_X7_treaty ⟨(Nat.le_of_ble_eq_true rfl), (Nat.le_of_ble_eq_true rfl)⟩ (Nat.le_of_ble_eq_true rfl) e7 ⟨(Nat.le_of_ble_eq_true rfl), (Nat.le_of_ble_eq_true rfl)⟩ dL_acts_128 rfl ?_
      rw [kb_ch hC.1]
      exact g_iretX (P := (fun (r : Int32) (u : sg_S × Int32) => cl_T m0 w c0 σ r u.1)) (w' := (fun u => sl_w Y ad u.1 (bx_W a u.2 ++ []))) (σ2, u3) C hr rfl hQ hsz dL_acts_131 hC rfl
    · skip
      refine g_if_le 123 127 C dL_acts_120 (by decide) rfl (T := none) (E := some ()) (v := ()) (if_pos (nb_pos (by omega) (by omega))) (fun h => by cases h) (fun _ => ?_)
      refine g_iconst 124 C (nb 1) dL_acts_123 rfl (by decide) ?_
      refine g_goto 128 C dL_acts_124 (by decide) ?_
      obtain ⟨r, σ2, e7, hC⟩ := kc_treaty hA hm (nb r1) (nb r2) (nb 1)
      refine lc_treaty 131 C gL_acts_X7_treaty ⟨(Nat.le_of_ble_eq_true rfl), (Nat.le_of_ble_eq_true rfl)⟩ (Nat.le_of_ble_eq_true rfl) e7 ⟨(Nat.le_of_ble_eq_true rfl), (Nat.le_of_ble_eq_true rfl)⟩ dL_acts_128 rfl ?_
      rw [kb_ch hC.1]
      exact g_iretX (P := (fun (r : Int32) (u : sg_S × Int32) => cl_T m0 w c0 σ r u.1)) (w' := (fun u => sl_w Y ad u.1 (bx_W a u.2 ++ []))) (σ2, u3) C hr rfl hQ hsz dL_acts_131 hC rfl
  have K132 : sg_G p l e { frames := 8, cells := 0, slots := 0, locals := 200 } s m args below meth c D (va_A (sl_w Y ad σ (bx_W a v ++ [])) s.heap.size) 4 0 0 Q 132 [(3, .int (nb r1)), (0, .ref (ad 0)), (1, .int (nb y)), (2, .ref a)] [] (sl_w Y ad σ (bx_W a u1 ++ [])) := by
    refine g_aload_n 133 C dL_acts_132 rfl rfl rfl ?_
    refine g_iload_n 134 C dL_acts_133 rfl rfl rfl ?_
    refine g_aload_n 135 C dL_acts_134 rfl rfl rfl ?_
    refine g_bipush 137 C (nb 20) dL_acts_135 rfl (by decide) ?_
    refine lb_next 140 C gL_acts_X8_next ⟨(Nat.le_of_ble_eq_true rfl), (Nat.le_of_ble_eq_true rfl)⟩ (Nat.le_of_ble_eq_true rfl) (by decide) (by decide) ⟨(Nat.le_of_ble_eq_true rfl), (Nat.le_of_ble_eq_true rfl)⟩ dL_acts_137 rfl (fun r4 u4 hr4 => ?_)
    by_cases er4 : r4 = 0
    · skip
      refine g_if_ne 143 148 C dL_acts_140 (by decide) rfl (T := none) (E := some ()) (v := ()) (if_pos (by rw [er4]; rfl)) (fun h => by cases h) (fun _ => ?_)
      refine g_bipush 145 C (nb 21) dL_acts_143 rfl (by decide) ?_
      refine g_goto 156 C dL_acts_145 (by decide) ?_
      refine g_aload_n 157 C dL_acts_156 rfl rfl rfl ?_
      refine g_bipush 159 C (nb 20) dL_acts_157 rfl (by decide) ?_
      refine lb_next 162 C gL_acts_X8_next ⟨(Nat.le_of_ble_eq_true rfl), (Nat.le_of_ble_eq_true rfl)⟩ (Nat.le_of_ble_eq_true rfl) (by decide) (by decide) ⟨(Nat.le_of_ble_eq_true rfl), (Nat.le_of_ble_eq_true rfl)⟩ dL_acts_159 rfl (fun r5 u5 hr5 => ?_)
      by_cases er5 : r5 = 0
      · skip
        refine g_if_ne 165 170 C dL_acts_162 (by decide) rfl (T := none) (E := some ()) (v := ()) (if_pos (by rw [er5]; rfl)) (fun h => by cases h) (fun _ => ?_)
        refine g_bipush 167 C (nb 7) dL_acts_165 rfl (by decide) ?_
        refine g_goto 190 C dL_acts_167 (by decide) ?_
        obtain ⟨r, σ2, e7, hC⟩ := kc_credit hA hm (nb r1) (nb 21) (nb 7)
        refine lc_credit 193 C gL_acts_X7_credit ⟨(Nat.le_of_ble_eq_true rfl), (Nat.le_of_ble_eq_true rfl)⟩ (Nat.le_of_ble_eq_true rfl) e7 ⟨(Nat.le_of_ble_eq_true rfl), (Nat.le_of_ble_eq_true rfl)⟩ dL_acts_190 rfl ?_
        rw [kb_ch hC.1]
        exact g_iretX (P := (fun (r : Int32) (u : sg_S × Int32) => cl_T m0 w c0 σ r u.1)) (w' := (fun u => sl_w Y ad u.1 (bx_W a u.2 ++ []))) (σ2, u5) C hr rfl hQ hsz dL_acts_193 hC rfl
      · skip
        refine g_if_ne 165 170 C dL_acts_162 (by decide) rfl (T := some ()) (E := none) (v := ()) (if_neg (nb_ne (b := 0) er5 (by omega) (by decide))) (fun _ => ?_) (fun h => by cases h)
        refine g_iconst 171 C (nb 1) dL_acts_170 rfl (by decide) ?_
        refine g_aload_n 172 C dL_acts_171 rfl rfl rfl ?_
        refine g_aload_n 173 C dL_acts_172 rfl rfl rfl ?_
        refine g_iconst 174 C (nb 2) dL_acts_173 rfl (by decide) ?_
        refine lb_next 177 C gL_acts_X8_next ⟨(Nat.le_of_ble_eq_true rfl), (Nat.le_of_ble_eq_true rfl)⟩ (Nat.le_of_ble_eq_true rfl) (by decide) (by decide) ⟨(Nat.le_of_ble_eq_true rfl), (Nat.le_of_ble_eq_true rfl)⟩ dL_acts_174 rfl (fun r6 u6 hr6 => ?_)
        by_cases er6 : r6 = 0
        · skip
          refine g_if_ne 180 185 C dL_acts_177 (by decide) rfl (T := none) (E := some ()) (v := ()) (if_pos (by rw [er6]; rfl)) (fun h => by cases h) (fun _ => ?_)
          refine g_bipush 182 C (nb 6) dL_acts_180 rfl (by decide) ?_
          refine g_goto 186 C dL_acts_182 (by decide) ?_
          refine lb_next 189 C gL_acts_X8_next ⟨(Nat.le_of_ble_eq_true rfl), (Nat.le_of_ble_eq_true rfl)⟩ (Nat.le_of_ble_eq_true rfl) (by decide) (by decide) ⟨(Nat.le_of_ble_eq_true rfl), (Nat.le_of_ble_eq_true rfl)⟩ dL_acts_186 rfl (fun r7 u7 hr7 => ?_)
          refine g_iadd 190 C dL_acts_189 rfl ?_
          obtain ⟨r, σ2, e7, hC⟩ := kc_credit hA hm (nb r1) (nb 21) ((nb 1) + (nb r7))
          refine lc_credit 193 C gL_acts_X7_credit ⟨(Nat.le_of_ble_eq_true rfl), (Nat.le_of_ble_eq_true rfl)⟩ (Nat.le_of_ble_eq_true rfl) e7 ⟨(Nat.le_of_ble_eq_true rfl), (Nat.le_of_ble_eq_true rfl)⟩ dL_acts_190 rfl ?_
          rw [kb_ch hC.1]
          exact g_iretX (P := (fun (r : Int32) (u : sg_S × Int32) => cl_T m0 w c0 σ r u.1)) (w' := (fun u => sl_w Y ad u.1 (bx_W a u.2 ++ []))) (σ2, u7) C hr rfl hQ hsz dL_acts_193 hC rfl
        · skip
          refine g_if_ne 180 185 C dL_acts_177 (by decide) rfl (T := some ()) (E := none) (v := ()) (if_neg (nb_ne (b := 0) er6 (by omega) (by decide))) (fun _ => ?_) (fun h => by cases h)
          refine g_iconst 186 C (nb 2) dL_acts_185 rfl (by decide) ?_
          refine lb_next 189 C gL_acts_X8_next ⟨(Nat.le_of_ble_eq_true rfl), (Nat.le_of_ble_eq_true rfl)⟩ (Nat.le_of_ble_eq_true rfl) (by decide) (by decide) ⟨(Nat.le_of_ble_eq_true rfl), (Nat.le_of_ble_eq_true rfl)⟩ dL_acts_186 rfl (fun r8 u8 hr8 => ?_)
          refine g_iadd 190 C dL_acts_189 rfl ?_
          obtain ⟨r, σ2, e7, hC⟩ := kc_credit hA hm (nb r1) (nb 21) ((nb 1) + (nb r8))
          refine lc_credit 193 C gL_acts_X7_credit ⟨(Nat.le_of_ble_eq_true rfl), (Nat.le_of_ble_eq_true rfl)⟩ (Nat.le_of_ble_eq_true rfl) e7 ⟨(Nat.le_of_ble_eq_true rfl), (Nat.le_of_ble_eq_true rfl)⟩ dL_acts_190 rfl ?_
          rw [kb_ch hC.1]
          exact g_iretX (P := (fun (r : Int32) (u : sg_S × Int32) => cl_T m0 w c0 σ r u.1)) (w' := (fun u => sl_w Y ad u.1 (bx_W a u.2 ++ []))) (σ2, u8) C hr rfl hQ hsz dL_acts_193 hC rfl
    · skip
      refine g_if_ne 143 148 C dL_acts_140 (by decide) rfl (T := some ()) (E := none) (v := ()) (if_neg (nb_ne (b := 0) er4 (by omega) (by decide))) (fun _ => ?_) (fun h => by cases h)
      refine g_iconst 149 C (nb 1) dL_acts_148 rfl (by decide) ?_
      refine g_aload_n 150 C dL_acts_149 rfl rfl rfl ?_
      refine g_bipush 152 C (nb 20) dL_acts_150 rfl (by decide) ?_
      refine lb_next 155 C gL_acts_X8_next ⟨(Nat.le_of_ble_eq_true rfl), (Nat.le_of_ble_eq_true rfl)⟩ (Nat.le_of_ble_eq_true rfl) (by decide) (by decide) ⟨(Nat.le_of_ble_eq_true rfl), (Nat.le_of_ble_eq_true rfl)⟩ dL_acts_152 rfl (fun r9 u9 hr9 => ?_)
      refine g_iadd 156 C dL_acts_155 rfl ?_
      refine g_aload_n 157 C dL_acts_156 rfl rfl rfl ?_
      refine g_bipush 159 C (nb 20) dL_acts_157 rfl (by decide) ?_
      refine lb_next 162 C gL_acts_X8_next ⟨(Nat.le_of_ble_eq_true rfl), (Nat.le_of_ble_eq_true rfl)⟩ (Nat.le_of_ble_eq_true rfl) (by decide) (by decide) ⟨(Nat.le_of_ble_eq_true rfl), (Nat.le_of_ble_eq_true rfl)⟩ dL_acts_159 rfl (fun r10 u10 hr10 => ?_)
      by_cases er10 : r10 = 0
      · skip
        refine g_if_ne 165 170 C dL_acts_162 (by decide) rfl (T := none) (E := some ()) (v := ()) (if_pos (by rw [er10]; rfl)) (fun h => by cases h) (fun _ => ?_)
        refine g_bipush 167 C (nb 7) dL_acts_165 rfl (by decide) ?_
        refine g_goto 190 C dL_acts_167 (by decide) ?_
        obtain ⟨r, σ2, e7, hC⟩ := kc_credit hA hm (nb r1) ((nb 1) + (nb r9)) (nb 7)
        refine lc_credit 193 C gL_acts_X7_credit ⟨(Nat.le_of_ble_eq_true rfl), (Nat.le_of_ble_eq_true rfl)⟩ (Nat.le_of_ble_eq_true rfl) e7 ⟨(Nat.le_of_ble_eq_true rfl), (Nat.le_of_ble_eq_true rfl)⟩ dL_acts_190 rfl ?_
        rw [kb_ch hC.1]
        exact g_iretX (P := (fun (r : Int32) (u : sg_S × Int32) => cl_T m0 w c0 σ r u.1)) (w' := (fun u => sl_w Y ad u.1 (bx_W a u.2 ++ []))) (σ2, u10) C hr rfl hQ hsz dL_acts_193 hC rfl
      · skip
        refine g_if_ne 165 170 C dL_acts_162 (by decide) rfl (T := some ()) (E := none) (v := ()) (if_neg (nb_ne (b := 0) er10 (by omega) (by decide))) (fun _ => ?_) (fun h => by cases h)
        refine g_iconst 171 C (nb 1) dL_acts_170 rfl (by decide) ?_
        refine g_aload_n 172 C dL_acts_171 rfl rfl rfl ?_
        refine g_aload_n 173 C dL_acts_172 rfl rfl rfl ?_
        refine g_iconst 174 C (nb 2) dL_acts_173 rfl (by decide) ?_
        refine lb_next 177 C gL_acts_X8_next ⟨(Nat.le_of_ble_eq_true rfl), (Nat.le_of_ble_eq_true rfl)⟩ (Nat.le_of_ble_eq_true rfl) (by decide) (by decide) ⟨(Nat.le_of_ble_eq_true rfl), (Nat.le_of_ble_eq_true rfl)⟩ dL_acts_174 rfl (fun r11 u11 hr11 => ?_)
        by_cases er11 : r11 = 0
        · skip
          refine g_if_ne 180 185 C dL_acts_177 (by decide) rfl (T := none) (E := some ()) (v := ()) (if_pos (by rw [er11]; rfl)) (fun h => by cases h) (fun _ => ?_)
          refine g_bipush 182 C (nb 6) dL_acts_180 rfl (by decide) ?_
          refine g_goto 186 C dL_acts_182 (by decide) ?_
          refine lb_next 189 C gL_acts_X8_next ⟨(Nat.le_of_ble_eq_true rfl), (Nat.le_of_ble_eq_true rfl)⟩ (Nat.le_of_ble_eq_true rfl) (by decide) (by decide) ⟨(Nat.le_of_ble_eq_true rfl), (Nat.le_of_ble_eq_true rfl)⟩ dL_acts_186 rfl (fun r12 u12 hr12 => ?_)
          refine g_iadd 190 C dL_acts_189 rfl ?_
          obtain ⟨r, σ2, e7, hC⟩ := kc_credit hA hm (nb r1) ((nb 1) + (nb r9)) ((nb 1) + (nb r12))
          refine lc_credit 193 C gL_acts_X7_credit ⟨(Nat.le_of_ble_eq_true rfl), (Nat.le_of_ble_eq_true rfl)⟩ (Nat.le_of_ble_eq_true rfl) e7 ⟨(Nat.le_of_ble_eq_true rfl), (Nat.le_of_ble_eq_true rfl)⟩ dL_acts_190 rfl ?_
          rw [kb_ch hC.1]
          exact g_iretX (P := (fun (r : Int32) (u : sg_S × Int32) => cl_T m0 w c0 σ r u.1)) (w' := (fun u => sl_w Y ad u.1 (bx_W a u.2 ++ []))) (σ2, u12) C hr rfl hQ hsz dL_acts_193 hC rfl
        · skip
          refine g_if_ne 180 185 C dL_acts_177 (by decide) rfl (T := some ()) (E := none) (v := ()) (if_neg (nb_ne (b := 0) er11 (by omega) (by decide))) (fun _ => ?_) (fun h => by cases h)
          refine g_iconst 186 C (nb 2) dL_acts_185 rfl (by decide) ?_
          refine lb_next 189 C gL_acts_X8_next ⟨(Nat.le_of_ble_eq_true rfl), (Nat.le_of_ble_eq_true rfl)⟩ (Nat.le_of_ble_eq_true rfl) (by decide) (by decide) ⟨(Nat.le_of_ble_eq_true rfl), (Nat.le_of_ble_eq_true rfl)⟩ dL_acts_186 rfl (fun r13 u13 hr13 => ?_)
          refine g_iadd 190 C dL_acts_189 rfl ?_
          obtain ⟨r, σ2, e7, hC⟩ := kc_credit hA hm (nb r1) ((nb 1) + (nb r9)) ((nb 1) + (nb r13))
          refine lc_credit 193 C gL_acts_X7_credit ⟨(Nat.le_of_ble_eq_true rfl), (Nat.le_of_ble_eq_true rfl)⟩ (Nat.le_of_ble_eq_true rfl) e7 ⟨(Nat.le_of_ble_eq_true rfl), (Nat.le_of_ble_eq_true rfl)⟩ dL_acts_190 rfl ?_
          rw [kb_ch hC.1]
          exact g_iretX (P := (fun (r : Int32) (u : sg_S × Int32) => cl_T m0 w c0 σ r u.1)) (w' := (fun u => sl_w Y ad u.1 (bx_W a u.2 ++ []))) (σ2, u13) C hr rfl hQ hsz dL_acts_193 hC rfl
  have K194 : sg_G p l e { frames := 8, cells := 0, slots := 0, locals := 200 } s m args below meth c D (va_A (sl_w Y ad σ (bx_W a v ++ [])) s.heap.size) 4 0 0 Q 194 [(3, .int (nb r1)), (0, .ref (ad 0)), (1, .int (nb y)), (2, .ref a)] [] (sl_w Y ad σ (bx_W a u1 ++ [])) := by
    refine g_aload_n 195 C dL_acts_194 rfl rfl rfl ?_
    refine g_aload_n 196 C dL_acts_195 rfl rfl rfl ?_
    refine g_aload_n 197 C dL_acts_196 rfl rfl rfl ?_
    refine g_iconst 198 C (nb 1) dL_acts_197 rfl (by decide) ?_
    refine lc_account 201 C gL_acts_X7_account ⟨(Nat.le_of_ble_eq_true rfl), (Nat.le_of_ble_eq_true rfl)⟩ (Nat.le_of_ble_eq_true rfl) (ce_account hA (k := 1) (by decide)) ⟨(Nat.le_of_ble_eq_true rfl), (Nat.le_of_ble_eq_true rfl)⟩ dL_acts_198 rfl ?_
    refine g_top (v := (nb (w 1))) rfl ?_
    refine lb_some 204 C gL_acts_L_some ⟨(Nat.le_of_ble_eq_true rfl), (Nat.le_of_ble_eq_true rfl)⟩ (Nat.le_of_ble_eq_true rfl) (by have := hA.2.1.2.1; omega) ⟨(Nat.le_of_ble_eq_true rfl), (Nat.le_of_ble_eq_true rfl)⟩ dL_acts_201 rfl (fun r14 u14 hr14 => ?_)
    obtain ⟨r, σ2, e7, hC⟩ := kc_repay hA hm (nb r14)
    refine lc_repay 207 C gL_acts_X7_repay ⟨(Nat.le_of_ble_eq_true rfl), (Nat.le_of_ble_eq_true rfl)⟩ (Nat.le_of_ble_eq_true rfl) e7 ⟨(Nat.le_of_ble_eq_true rfl), (Nat.le_of_ble_eq_true rfl)⟩ dL_acts_204 rfl ?_
    rw [kb_ch hC.1]
    exact g_iretX (P := (fun (r : Int32) (u : sg_S × Int32) => cl_T m0 w c0 σ r u.1)) (w' := (fun u => sl_w Y ad u.1 (bx_W a u.2 ++ []))) (σ2, u14) C hr rfl hQ hsz dL_acts_207 hC rfl
  have K208 : sg_G p l e { frames := 8, cells := 0, slots := 0, locals := 200 } s m args below meth c D (va_A (sl_w Y ad σ (bx_W a v ++ [])) s.heap.size) 4 0 0 Q 208 [(3, .int (nb r1)), (0, .ref (ad 0)), (1, .int (nb y)), (2, .ref a)] [] (sl_w Y ad σ (bx_W a u1 ++ [])) := by
    refine g_aload_n 209 C dL_acts_208 rfl rfl rfl ?_
    refine g_iload_n 210 C dL_acts_209 rfl rfl rfl ?_
    refine g_aload_n 211 C dL_acts_210 rfl rfl rfl ?_
    refine g_bipush 213 C (nb 20) dL_acts_211 rfl (by decide) ?_
    refine lb_next 216 C gL_acts_X8_next ⟨(Nat.le_of_ble_eq_true rfl), (Nat.le_of_ble_eq_true rfl)⟩ (Nat.le_of_ble_eq_true rfl) (by decide) (by decide) ⟨(Nat.le_of_ble_eq_true rfl), (Nat.le_of_ble_eq_true rfl)⟩ dL_acts_213 rfl (fun r15 u15 hr15 => ?_)
    by_cases er15 : r15 = 0
    · skip
      refine g_if_ne 219 223 C dL_acts_216 (by decide) rfl (T := none) (E := some ()) (v := ()) (if_pos (by rw [er15]; rfl)) (fun h => by cases h) (fun _ => ?_)
      refine g_iconst 220 C (nb 0) dL_acts_219 rfl (by decide) ?_
      refine g_goto 231 C dL_acts_220 (by decide) ?_
      obtain ⟨r, σ2, e7, hC⟩ := kc_rain hA hm (nb r1) (nb 0)
      refine lc_rain 234 C gL_acts_X7_rain ⟨(Nat.le_of_ble_eq_true rfl), (Nat.le_of_ble_eq_true rfl)⟩ (Nat.le_of_ble_eq_true rfl) e7 ⟨(Nat.le_of_ble_eq_true rfl), (Nat.le_of_ble_eq_true rfl)⟩ dL_acts_231 rfl ?_
      rw [kb_ch hC.1]
      exact g_iretX (P := (fun (r : Int32) (u : sg_S × Int32) => cl_T m0 w c0 σ r u.1)) (w' := (fun u => sl_w Y ad u.1 (bx_W a u.2 ++ []))) (σ2, u15) C hr rfl hQ hsz dL_acts_234 hC rfl
    · skip
      refine g_if_ne 219 223 C dL_acts_216 (by decide) rfl (T := some ()) (E := none) (v := ()) (if_neg (nb_ne (b := 0) er15 (by omega) (by decide))) (fun _ => ?_) (fun h => by cases h)
      refine g_iconst 224 C (nb 1) dL_acts_223 rfl (by decide) ?_
      refine g_aload_n 225 C dL_acts_224 rfl rfl rfl ?_
      refine g_bipush 227 C (nb 20) dL_acts_225 rfl (by decide) ?_
      refine lb_next 230 C gL_acts_X8_next ⟨(Nat.le_of_ble_eq_true rfl), (Nat.le_of_ble_eq_true rfl)⟩ (Nat.le_of_ble_eq_true rfl) (by decide) (by decide) ⟨(Nat.le_of_ble_eq_true rfl), (Nat.le_of_ble_eq_true rfl)⟩ dL_acts_227 rfl (fun r16 u16 hr16 => ?_)
      refine g_iadd 231 C dL_acts_230 rfl ?_
      obtain ⟨r, σ2, e7, hC⟩ := kc_rain hA hm (nb r1) ((nb 1) + (nb r16))
      refine lc_rain 234 C gL_acts_X7_rain ⟨(Nat.le_of_ble_eq_true rfl), (Nat.le_of_ble_eq_true rfl)⟩ (Nat.le_of_ble_eq_true rfl) e7 ⟨(Nat.le_of_ble_eq_true rfl), (Nat.le_of_ble_eq_true rfl)⟩ dL_acts_231 rfl ?_
      rw [kb_ch hC.1]
      exact g_iretX (P := (fun (r : Int32) (u : sg_S × Int32) => cl_T m0 w c0 σ r u.1)) (w' := (fun u => sl_w Y ad u.1 (bx_W a u.2 ++ []))) (σ2, u16) C hr rfl hQ hsz dL_acts_234 hC rfl
  have K235 : sg_G p l e { frames := 8, cells := 0, slots := 0, locals := 200 } s m args below meth c D (va_A (sl_w Y ad σ (bx_W a v ++ [])) s.heap.size) 4 0 0 Q 235 [(3, .int (nb r1)), (0, .ref (ad 0)), (1, .int (nb y)), (2, .ref a)] [] (sl_w Y ad σ (bx_W a u1 ++ [])) := by
    refine g_aload_n 236 C dL_acts_235 rfl rfl rfl ?_
    refine g_iload_n 237 C dL_acts_236 rfl rfl rfl ?_
    refine g_aload_n 238 C dL_acts_237 rfl rfl rfl ?_
    refine g_bipush 240 C (nb 20) dL_acts_238 rfl (by decide) ?_
    refine lb_next 243 C gL_acts_X8_next ⟨(Nat.le_of_ble_eq_true rfl), (Nat.le_of_ble_eq_true rfl)⟩ (Nat.le_of_ble_eq_true rfl) (by decide) (by decide) ⟨(Nat.le_of_ble_eq_true rfl), (Nat.le_of_ble_eq_true rfl)⟩ dL_acts_240 rfl (fun r17 u17 hr17 => ?_)
    by_cases er17 : r17 = 0
    · skip
      refine g_if_ne 246 251 C dL_acts_243 (by decide) rfl (T := none) (E := some ()) (v := ()) (if_pos (by rw [er17]; rfl)) (fun h => by cases h) (fun _ => ?_)
      refine g_bipush 248 C (nb 10) dL_acts_246 rfl (by decide) ?_
      refine g_goto 258 C dL_acts_248 (by decide) ?_
      obtain ⟨r, σ2, e7, hC⟩ := kc_bail hA hm (nb r1) (nb 10)
      refine lc_bail 261 C gL_acts_X7_bail ⟨(Nat.le_of_ble_eq_true rfl), (Nat.le_of_ble_eq_true rfl)⟩ (Nat.le_of_ble_eq_true rfl) e7 ⟨(Nat.le_of_ble_eq_true rfl), (Nat.le_of_ble_eq_true rfl)⟩ dL_acts_258 rfl ?_
      rw [kb_ch hC.1]
      exact g_iretX (P := (fun (r : Int32) (u : sg_S × Int32) => cl_T m0 w c0 σ r u.1)) (w' := (fun u => sl_w Y ad u.1 (bx_W a u.2 ++ []))) (σ2, u17) C hr rfl hQ hsz dL_acts_261 hC rfl
    · skip
      refine g_if_ne 246 251 C dL_acts_243 (by decide) rfl (T := some ()) (E := none) (v := ()) (if_neg (nb_ne (b := 0) er17 (by omega) (by decide))) (fun _ => ?_) (fun h => by cases h)
      refine g_iconst 252 C (nb 1) dL_acts_251 rfl (by decide) ?_
      refine g_aload_n 253 C dL_acts_252 rfl rfl rfl ?_
      refine g_iconst 254 C (nb 3) dL_acts_253 rfl (by decide) ?_
      refine lb_next 257 C gL_acts_X8_next ⟨(Nat.le_of_ble_eq_true rfl), (Nat.le_of_ble_eq_true rfl)⟩ (Nat.le_of_ble_eq_true rfl) (by decide) (by decide) ⟨(Nat.le_of_ble_eq_true rfl), (Nat.le_of_ble_eq_true rfl)⟩ dL_acts_254 rfl (fun r18 u18 hr18 => ?_)
      refine g_iadd 258 C dL_acts_257 rfl ?_
      obtain ⟨r, σ2, e7, hC⟩ := kc_bail hA hm (nb r1) ((nb 1) + (nb r18))
      refine lc_bail 261 C gL_acts_X7_bail ⟨(Nat.le_of_ble_eq_true rfl), (Nat.le_of_ble_eq_true rfl)⟩ (Nat.le_of_ble_eq_true rfl) e7 ⟨(Nat.le_of_ble_eq_true rfl), (Nat.le_of_ble_eq_true rfl)⟩ dL_acts_258 rfl ?_
      rw [kb_ch hC.1]
      exact g_iretX (P := (fun (r : Int32) (u : sg_S × Int32) => cl_T m0 w c0 σ r u.1)) (w' := (fun u => sl_w Y ad u.1 (bx_W a u.2 ++ []))) (σ2, u18) C hr rfl hQ hsz dL_acts_261 hC rfl
  have K262 : sg_G p l e { frames := 8, cells := 0, slots := 0, locals := 200 } s m args below meth c D (va_A (sl_w Y ad σ (bx_W a v ++ [])) s.heap.size) 4 0 0 Q 262 [(3, .int (nb r1)), (0, .ref (ad 0)), (1, .int (nb y)), (2, .ref a)] [] (sl_w Y ad σ (bx_W a u1 ++ [])) := by
    refine g_aload_n 263 C dL_acts_262 rfl rfl rfl ?_
    refine g_iload_n 264 C dL_acts_263 rfl rfl rfl ?_
    obtain ⟨r, σ2, e7, hC⟩ := kc_buy hA hm (nb r1)
    refine lc_buy 267 C gL_acts_X7_buy ⟨(Nat.le_of_ble_eq_true rfl), (Nat.le_of_ble_eq_true rfl)⟩ (Nat.le_of_ble_eq_true rfl) e7 ⟨(Nat.le_of_ble_eq_true rfl), (Nat.le_of_ble_eq_true rfl)⟩ dL_acts_264 rfl ?_
    rw [kb_ch hC.1]
    exact g_iretX (P := (fun (r : Int32) (u : sg_S × Int32) => cl_T m0 w c0 σ r u.1)) (w' := (fun u => sl_w Y ad u.1 (bx_W a u.2 ++ []))) (σ2, u1) C hr rfl hQ hsz dL_acts_267 hC rfl
  have K268 : sg_G p l e { frames := 8, cells := 0, slots := 0, locals := 200 } s m args below meth c D (va_A (sl_w Y ad σ (bx_W a v ++ [])) s.heap.size) 4 0 0 Q 268 [(3, .int (nb r1)), (0, .ref (ad 0)), (1, .int (nb y)), (2, .ref a)] [] (sl_w Y ad σ (bx_W a u1 ++ [])) := by
    refine g_aload_n 269 C dL_acts_268 rfl rfl rfl ?_
    obtain ⟨r, σ2, e7, hC⟩ := kc_month hA hm 
    refine lc_month 272 C gL_acts_X7_month ⟨(Nat.le_of_ble_eq_true rfl), (Nat.le_of_ble_eq_true rfl)⟩ (Nat.le_of_ble_eq_true rfl) e7 ⟨(Nat.le_of_ble_eq_true rfl), (Nat.le_of_ble_eq_true rfl)⟩ dL_acts_269 rfl ?_
    rw [kb_ch hC.1]
    exact g_iretX (P := (fun (r : Int32) (u : sg_S × Int32) => cl_T m0 w c0 σ r u.1)) (w' := (fun u => sl_w Y ad u.1 (bx_W a u.2 ++ []))) (σ2, u1) C hr rfl hQ hsz dL_acts_272 hC rfl
  have hlt : y % 28 < 28 := Nat.mod_lt _ (by decide)
  rcases (by omega : y % 28 = 0 ∨ y % 28 = 1 ∨ y % 28 = 2 ∨ y % 28 = 3 ∨ y % 28 = 4 ∨ y % 28 = 5 ∨ y % 28 = 6 ∨ y % 28 = 7 ∨ y % 28 = 8 ∨ y % 28 = 9 ∨ y % 28 = 10 ∨ y % 28 = 11 ∨ y % 28 = 12 ∨ y % 28 = 13 ∨ y % 28 = 14 ∨ y % 28 = 15 ∨ y % 28 = 16 ∨ y % 28 = 17 ∨ y % 28 = 18 ∨ y % 28 = 19 ∨ y % 28 = 20 ∨ 21 ≤ y % 28) with hc | hc | hc | hc | hc | hc | hc | hc | hc | hc | hc | hc | hc | hc | hc | hc | hc | hc | hc | hc | hc | hc
  · exact g_tsin C 108 (nb 0) dL_acts_10 (by rw [hc]) (by decide) (by decide) rfl (by decide) K108
  · exact g_tsin C 108 (nb 1) dL_acts_10 (by rw [hc]) (by decide) (by decide) rfl (by decide) K108
  · exact g_tsin C 108 (nb 2) dL_acts_10 (by rw [hc]) (by decide) (by decide) rfl (by decide) K108
  · exact g_tsin C 108 (nb 3) dL_acts_10 (by rw [hc]) (by decide) (by decide) rfl (by decide) K108
  · exact g_tsin C 132 (nb 4) dL_acts_10 (by rw [hc]) (by decide) (by decide) rfl (by decide) K132
  · exact g_tsin C 132 (nb 5) dL_acts_10 (by rw [hc]) (by decide) (by decide) rfl (by decide) K132
  · exact g_tsin C 132 (nb 6) dL_acts_10 (by rw [hc]) (by decide) (by decide) rfl (by decide) K132
  · exact g_tsin C 132 (nb 7) dL_acts_10 (by rw [hc]) (by decide) (by decide) rfl (by decide) K132
  · exact g_tsin C 132 (nb 8) dL_acts_10 (by rw [hc]) (by decide) (by decide) rfl (by decide) K132
  · exact g_tsin C 132 (nb 9) dL_acts_10 (by rw [hc]) (by decide) (by decide) rfl (by decide) K132
  · exact g_tsin C 132 (nb 10) dL_acts_10 (by rw [hc]) (by decide) (by decide) rfl (by decide) K132
  · exact g_tsin C 194 (nb 11) dL_acts_10 (by rw [hc]) (by decide) (by decide) rfl (by decide) K194
  · exact g_tsin C 194 (nb 12) dL_acts_10 (by rw [hc]) (by decide) (by decide) rfl (by decide) K194
  · exact g_tsin C 208 (nb 13) dL_acts_10 (by rw [hc]) (by decide) (by decide) rfl (by decide) K208
  · exact g_tsin C 208 (nb 14) dL_acts_10 (by rw [hc]) (by decide) (by decide) rfl (by decide) K208
  · exact g_tsin C 235 (nb 15) dL_acts_10 (by rw [hc]) (by decide) (by decide) rfl (by decide) K235
  · exact g_tsin C 235 (nb 16) dL_acts_10 (by rw [hc]) (by decide) (by decide) rfl (by decide) K235
  · exact g_tsin C 235 (nb 17) dL_acts_10 (by rw [hc]) (by decide) (by decide) rfl (by decide) K235
  · exact g_tsin C 262 (nb 18) dL_acts_10 (by rw [hc]) (by decide) (by decide) rfl (by decide) K262
  · exact g_tsin C 262 (nb 19) dL_acts_10 (by rw [hc]) (by decide) (by decide) rfl (by decide) K262
  · exact g_tsin C 262 (nb 20) dL_acts_10 (by rw [hc]) (by decide) (by decide) rfl (by decide) K262
  · exact g_tsout C 268 dL_acts_10 (Or.inr (by rw [nb_ti (by omega)]; omega)) (by decide) K268
section SLM3
variable {p : Program} {l : Launch} {e : Env} {R : Room} {s : State} {m : MethodId} {args : Array Value} {below : List Frame} {meth : Method} {c : Code} {D : va_G} {Y : Nat → ClassId} {Z : (Nat → Prop) → State → Heap → Prop} {A : Nat → Prop} {nL : Nat} {cells slots : Nat} {Q : State → Prop} {cc : ByteArray} {own : String} {Ts : List Cond} {pc : Nat} {lv : List (Nat × Value)} {st : List Value} {X : va_W} {ad b : Nat → Nat} {σ κ : sg_S} {index : Nat} {jK jV jT : Nat → Nat} {f : Nat → Nat} {n0 : Nat} {m0 c0 : Nat} {w : Nat → Nat}
theorem lk_acts (n : Nat) (C : sg_C p R s m args meth c cc nL own Ts D Y Z A) (hA : cl_A m0 w c0 σ) (hm : m0 < 9000) (hG : GoodIn Ts (va_wsS own index yL_acts wsL_acts)) (hR : 9 ≤ R.frames ∧ 223 ≤ R.locals) (hroom : (st.map fun v => v.category).sum ≤ 8) {a y : Nat} {v : Int32} (hy : y < 2147483648) (hcs : cells ≤ R.cells ∧ slots ≤ R.slots) (hdg : decode cc pc = .ok (.invokestatic index, 3)) (hn : pc + 3 = n) (kk : ∀ (r : Int32) (σ2 : sg_S) (u : Int32), cl_T m0 w c0 σ r σ2 → sg_G p l e R s m args below meth c D A nL cells slots Q n lv (.int r :: st) (sl_w Y ad σ2 (bx_W a u ++ X))) : sg_G p l e R s m args below meth c D A nL cells slots Q pc lv (.ref a :: .int (nb y) :: .ref (ad 0) :: st) (sl_w Y ad σ (bx_W a v ++ X)) :=
  g_XSi n C (As := [.ref (ad 0), .int (nb y), .ref a]) (st := st) (n0 := 3) (k_acts l C.2.2.2.2.2.2.2.1 hA hm hy) hG ⟨by decide +kernel, by decide +kernel, rfl⟩ rfl hR (sl_cutL Y ad σ (bx_W a v ++ []) X (fun _ => ad) (fun u : sg_S × Int32 => u.1) (fun u => bx_W a u.2 ++ [])) rfl hroom hcs hdg hn rfl (fun r u hu => kk r u.1 u.2 hu)
end SLM3
