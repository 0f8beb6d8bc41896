/-! A COMMAND OF THE INPUT IN THE REFERENCE, AND BOTH ALIKE -/
theorem pk_79b {z1 z2 z3 z4 : Int32} {τ : sg_S} (h : τ 0 25 = 1) : f_X8_command_J79 z1 z2 z3 z4 τ = some τ := by
  unfold f_X8_command_J79
  rw [h, if_neg nb_10]
theorem pk_67b {z1 z2 z3 z4 : Int32} {τ : sg_S} (h : τ 0 25 = 1) : f_X8_command_J67 z1 z2 z3 z4 τ = some τ := by
  unfold f_X8_command_J67
  by_cases c : z1 = 2
  · rw [if_pos c, pr_bw h, nb_bnd2, pk_79b h]
  · rw [if_neg c, pk_79b h]
theorem pk_51b {z1 z2 z3 z4 : Int32} {τ : sg_S} (h : τ 0 25 = 1) : f_X8_command_J51 z1 z2 z3 z4 τ = some τ := by
  have e : f_X8_command_J61 z1 z2 z4 τ = some τ := by
    unfold f_X8_command_J61
    rw [pr_bw h, nb_bnd2, pk_67b h]
  unfold f_X8_command_J51
  by_cases c : z1 = 2
  · rw [if_pos c, e]
  · rw [if_neg c]
    by_cases d : z1 = 4
    · rw [if_pos d, e]
    · rw [if_neg d, pk_67b h]
theorem pk_31b {z1 z2 z3 z4 : Int32} {τ : sg_S} (h : τ 0 25 = 1) : f_X8_command_J31 z1 z2 z3 z4 τ = some τ := by
  have e : f_X8_command_J45 z1 z2 z4 τ = some τ := by
    unfold f_X8_command_J45
    rw [pr_bw h, nb_bnd2, pk_51b h]
  unfold f_X8_command_J31
  by_cases c : z1 = 0
  · rw [if_pos c, e]
  · rw [if_neg c]
    by_cases d : z1 = 1
    · rw [if_pos d, e]
    · rw [if_neg d]
      by_cases g : z1 = 5
      · rw [if_pos g, e]
      · rw [if_neg g, pk_51b h]
def pk_C (k : Nat) (τ : sg_S) : Option sg_S := if nb k < 7 then sg_bnd2 (f_X8_digits 1 τ) (fun r18 τ16 => f_X8_command_J31 (nb k) r18 0 0 τ16) else f_X8_command_J31 (nb k) 0 0 0 τ
/-- the rest of a command whose word is there: good, or bad -/
def pk_X (f : Nat → Nat) (n k : Nat) (R : List Nat) (q : Nat) (τ : sg_S) (o : Option sg_S) : Prop := ((pt_o f n R q).1 = true ∧ ∃ τ2, o = f_X8_command_J79 (nb k) (nb (pt_v f n R q 0 (fun _ => 0) 0)) (nb (pt_v f n R q 0 (fun _ => 0) 1)) (nb (pt_v f n R q 0 (fun _ => 0) 2)) τ2 ∧ pr_I τ2 f n (pt_o f n R q).2 ∧ pr_F τ τ2) ∨ ((pt_o f n R q).1 = false ∧ ∃ τ2, o = some τ2 ∧ τ2 0 22 = nb (pt_o f n R q).2 ∧ τ2 0 25 = 1 ∧ pr_F τ τ2)
theorem pk_o1 {f : Nat → Nat} {n q : Nat} {r : List Nat} : pt_o f n (49 :: r) q = if (pt_d f n 1 q 0).2 = 0 then (false, q) else pt_o f n r (q + (pt_d f n 1 q 0).2) := by
  rw [pt_o, if_pos (by decide)]
theorem pk_o2 {f : Nat → Nat} {n q : Nat} {r : List Nat} : pt_o f n (50 :: r) q = if (pt_d f n 2 q 0).2 = 0 then (false, q) else pt_o f n r (q + (pt_d f n 2 q 0).2) := by
  rw [pt_o, if_pos (by decide)]
theorem pk_o3 {f : Nat → Nat} {n q : Nat} {r : List Nat} : pt_o f n (32 :: r) q = if pt_h f n q = 32 then pt_o f n r (q + 1) else (false, q) := by
  rw [pt_o, if_neg (by decide)]
theorem pk_v1 {f : Nat → Nat} {n q j : Nat} {r : List Nat} {s : Nat → Nat} (h : (pt_d f n 1 q 0).2 ≠ 0) : pt_v f n (49 :: r) q j s = pt_v f n r (q + (pt_d f n 1 q 0).2) (j + 1) (gw_u s j (pt_d f n 1 q 0).1) := by
  rw [pt_v, if_pos (by decide)]
  exact if_neg h
theorem pk_v2 {f : Nat → Nat} {n q j : Nat} {r : List Nat} {s : Nat → Nat} (h : (pt_d f n 2 q 0).2 ≠ 0) : pt_v f n (50 :: r) q j s = pt_v f n r (q + (pt_d f n 2 q 0).2) (j + 1) (gw_u s j (pt_d f n 2 q 0).1) := by
  rw [pt_v, if_pos (by decide)]
  exact if_neg h
theorem pk_v3 {f : Nat → Nat} {n q j : Nat} {r : List Nat} {s : Nat → Nat} (h : pt_h f n q = 32) : pt_v f n (32 :: r) q j s = pt_v f n r (q + 1) j s := by
  rw [pt_v, if_neg (by decide), if_pos h]
theorem pk_v0 {f : Nat → Nat} {n q j : Nat} {s : Nat → Nat} : pt_v f n [] q j s = s := by rw [pt_v]
theorem pk_o0 {f : Nat → Nat} {n q : Nat} : pt_o f n [] q = (true, q) := by rw [pt_o]
theorem pk_r0 {f : Nat → Nat} {n q : Nat} {τ : sg_S} (h : pr_I τ f n q) : pk_X f n 0 (pt_r 0) q τ (pk_C 0 τ) := by
  show pk_X f n 0 [49, 32, 49] q τ (pk_C 0 τ)
  unfold pk_C
  obtain ⟨τ1, a1, a2, a3, a4, a5, a6⟩ := pr_dg (M := 1) (by decide) h
  have a1' : f_X8_digits 1 τ = some (nb (pt_d f n 1 q 0).1, τ1) := a1
  rw [if_pos (by decide), a1', nb_bnd2]
  unfold pk_X
  rw [pk_o1]
  by_cases z : (pt_d f n 1 q 0).2 = 0
  · have w1 := a4 (fun c => c z)
    rw [if_pos z]
    rw [z] at a2
    exact Or.inr ⟨rfl, τ1, pk_31b w1, a2, w1, a6⟩
  · have I1 := pr_Ix h a6 a2 (a3 z) a5
    rw [if_neg z, pk_v1 z]
    unfold f_X8_command_J31 f_X8_command_J45
    rw [if_pos (by decide)]
    obtain ⟨τ2, v2, b1, b2, b3⟩ := pr_bl (M := 1) (by decide) I1
    have b1' : f_X8_blankAnd 1 τ1 = some (nb v2, τ2) := b1
    rw [b1', nb_bnd2, pk_o3]
    by_cases y : pt_h f n (q + (pt_d f n 1 q 0).2) = 32
    · obtain ⟨e2, c2, c3, c4, c5, c6⟩ := b2 y
      rw [if_pos y, pk_v3 y, pk_o1]
      by_cases x : (pt_d f n 1 (q + (pt_d f n 1 q 0).2 + 1) 0).2 = 0
      · have w2 := c4 (fun c => c x)
        rw [if_pos x]
        rw [x] at c2
        exact Or.inr ⟨rfl, τ2, pk_51b w2, c2, w2, pr_Ftr a6 c6⟩
      · have I2 := pr_Ix I1 c6 c2 (c3 x) c5
        rw [if_neg x, pk_v1 x]
        unfold f_X8_command_J51 f_X8_command_J67
        rw [if_neg (by decide), if_neg (by decide), if_neg (by decide), e2]
        refine Or.inl ⟨by rw [pk_o0], τ2, ?_, ?_, pr_Ftr a6 c6⟩
        · rw [pk_v0]
          try rfl
        · rw [pk_o0]
          exact I2
    · obtain ⟨c2, c3, c4, c5, c6⟩ := b3 y
      have w2 := c4 (fun c => c)
      rw [if_neg y]
      exact Or.inr ⟨rfl, τ2, pk_51b w2, c2, w2, pr_Ftr a6 c6⟩
theorem pk_r1 {f : Nat → Nat} {n q : Nat} {τ : sg_S} (h : pr_I τ f n q) : pk_X f n 1 (pt_r 1) q τ (pk_C 1 τ) := by
  show pk_X f n 1 [49, 32, 49] q τ (pk_C 1 τ)
  unfold pk_C
  obtain ⟨τ1, a1, a2, a3, a4, a5, a6⟩ := pr_dg (M := 1) (by decide) h
  have a1' : f_X8_digits 1 τ = some (nb (pt_d f n 1 q 0).1, τ1) := a1
  rw [if_pos (by decide), a1', nb_bnd2]
  unfold pk_X
  rw [pk_o1]
  by_cases z : (pt_d f n 1 q 0).2 = 0
  · have w1 := a4 (fun c => c z)
    rw [if_pos z]
    rw [z] at a2
    exact Or.inr ⟨rfl, τ1, pk_31b w1, a2, w1, a6⟩
  · have I1 := pr_Ix h a6 a2 (a3 z) a5
    rw [if_neg z, pk_v1 z]
    unfold f_X8_command_J31 f_X8_command_J45
    rw [if_neg (by decide), if_pos (by decide)]
    obtain ⟨τ2, v2, b1, b2, b3⟩ := pr_bl (M := 1) (by decide) I1
    have b1' : f_X8_blankAnd 1 τ1 = some (nb v2, τ2) := b1
    rw [b1', nb_bnd2, pk_o3]
    by_cases y : pt_h f n (q + (pt_d f n 1 q 0).2) = 32
    · obtain ⟨e2, c2, c3, c4, c5, c6⟩ := b2 y
      rw [if_pos y, pk_v3 y, pk_o1]
      by_cases x : (pt_d f n 1 (q + (pt_d f n 1 q 0).2 + 1) 0).2 = 0
      · have w2 := c4 (fun c => c x)
        rw [if_pos x]
        rw [x] at c2
        exact Or.inr ⟨rfl, τ2, pk_51b w2, c2, w2, pr_Ftr a6 c6⟩
      · have I2 := pr_Ix I1 c6 c2 (c3 x) c5
        rw [if_neg x, pk_v1 x]
        unfold f_X8_command_J51 f_X8_command_J67
        rw [if_neg (by decide), if_neg (by decide), if_neg (by decide), e2]
        refine Or.inl ⟨by rw [pk_o0], τ2, ?_, ?_, pr_Ftr a6 c6⟩
        · rw [pk_v0]
          try rfl
        · rw [pk_o0]
          exact I2
    · obtain ⟨c2, c3, c4, c5, c6⟩ := b3 y
      have w2 := c4 (fun c => c)
      rw [if_neg y]
      exact Or.inr ⟨rfl, τ2, pk_51b w2, c2, w2, pr_Ftr a6 c6⟩
theorem pk_r2 {f : Nat → Nat} {n q : Nat} {τ : sg_S} (h : pr_I τ f n q) : pk_X f n 2 (pt_r 2) q τ (pk_C 2 τ) := by
  show pk_X f n 2 [49, 32, 50, 32, 49] q τ (pk_C 2 τ)
  unfold pk_C
  obtain ⟨τ1, a1, a2, a3, a4, a5, a6⟩ := pr_dg (M := 1) (by decide) h
  have a1' : f_X8_digits 1 τ = some (nb (pt_d f n 1 q 0).1, τ1) := a1
  rw [if_pos (by decide), a1', nb_bnd2]
  unfold pk_X
  rw [pk_o1]
  by_cases z : (pt_d f n 1 q 0).2 = 0
  · have w1 := a4 (fun c => c z)
    rw [if_pos z]
    rw [z] at a2
    exact Or.inr ⟨rfl, τ1, pk_31b w1, a2, w1, a6⟩
  · have I1 := pr_Ix h a6 a2 (a3 z) a5
    rw [if_neg z, pk_v1 z]
    unfold f_X8_command_J31 f_X8_command_J51 f_X8_command_J61
    rw [if_neg (by decide), if_neg (by decide), if_neg (by decide), if_pos (by decide)]
    obtain ⟨τ2, v2, b1, b2, b3⟩ := pr_bl (M := 2) (by decide) I1
    have b1' : f_X8_blankAnd 2 τ1 = some (nb v2, τ2) := b1
    rw [b1', nb_bnd2, pk_o3]
    by_cases y : pt_h f n (q + (pt_d f n 1 q 0).2) = 32
    · obtain ⟨e2, c2, c3, c4, c5, c6⟩ := b2 y
      rw [if_pos y, pk_v3 y, pk_o2]
      by_cases x : (pt_d f n 2 (q + (pt_d f n 1 q 0).2 + 1) 0).2 = 0
      · have w2 := c4 (fun c => c x)
        rw [if_pos x]
        rw [x] at c2
        exact Or.inr ⟨rfl, τ2, pk_67b w2, c2, w2, pr_Ftr a6 c6⟩
      · have I2 := pr_Ix I1 c6 c2 (c3 x) c5
        rw [if_neg x, pk_v2 x]
        unfold f_X8_command_J67
        rw [if_pos (by decide)]
        obtain ⟨τ3, v3, d1, d2, d3⟩ := pr_bl (M := 1) (by decide) I2
        have d1' : f_X8_blankAnd 1 τ2 = some (nb v3, τ3) := d1
        rw [d1', nb_bnd2, pk_o3, e2]
        by_cases u : pt_h f n (q + (pt_d f n 1 q 0).2 + 1 + (pt_d f n 2 (q + (pt_d f n 1 q 0).2 + 1) 0).2) = 32
        · obtain ⟨e3, g2, g3, g4, g5, g6⟩ := d2 u
          rw [if_pos u, pk_v3 u, pk_o1]
          by_cases t : (pt_d f n 1 (q + (pt_d f n 1 q 0).2 + 1 + (pt_d f n 2 (q + (pt_d f n 1 q 0).2 + 1) 0).2 + 1) 0).2 = 0
          · have w3 := g4 (fun c => c t)
            rw [if_pos t]
            rw [t] at g2
            exact Or.inr ⟨rfl, τ3, pk_79b w3, g2, w3, pr_Ftr a6 (pr_Ftr c6 g6)⟩
          · have I3 := pr_Ix I2 g6 g2 (g3 t) g5
            rw [if_neg t, pk_v1 t, e3]
            refine Or.inl ⟨by rw [pk_o0], τ3, ?_, ?_, pr_Ftr a6 (pr_Ftr c6 g6)⟩
            · rw [pk_v0]
              try rfl
            · rw [pk_o0]
              exact I3
        · obtain ⟨g2, g3, g4, g5, g6⟩ := d3 u
          have w3 := g4 (fun c => c)
          rw [if_neg u]
          exact Or.inr ⟨rfl, τ3, pk_79b w3, g2, w3, pr_Ftr a6 (pr_Ftr c6 g6)⟩
    · obtain ⟨c2, c3, c4, c5, c6⟩ := b3 y
      have w2 := c4 (fun c => c)
      rw [if_neg y]
      exact Or.inr ⟨rfl, τ2, pk_67b w2, c2, w2, pr_Ftr a6 c6⟩
theorem pk_r3 {f : Nat → Nat} {n q : Nat} {τ : sg_S} (h : pr_I τ f n q) : pk_X f n 3 (pt_r 3) q τ (pk_C 3 τ) := by
  show pk_X f n 3 [49] q τ (pk_C 3 τ)
  unfold pk_C
  obtain ⟨τ1, a1, a2, a3, a4, a5, a6⟩ := pr_dg (M := 1) (by decide) h
  have a1' : f_X8_digits 1 τ = some (nb (pt_d f n 1 q 0).1, τ1) := a1
  rw [if_pos (by decide), a1', nb_bnd2]
  unfold pk_X
  rw [pk_o1]
  by_cases z : (pt_d f n 1 q 0).2 = 0
  · have w1 := a4 (fun c => c z)
    rw [if_pos z]
    rw [z] at a2
    exact Or.inr ⟨rfl, τ1, pk_31b w1, a2, w1, a6⟩
  · have I1 := pr_Ix h a6 a2 (a3 z) a5
    rw [if_neg z, pk_v1 z]
    unfold f_X8_command_J31 f_X8_command_J51 f_X8_command_J67
    rw [if_neg (by decide), if_neg (by decide), if_neg (by decide), if_neg (by decide), if_neg (by decide), if_neg (by decide)]
    refine Or.inl ⟨by rw [pk_o0], τ1, ?_, ?_, a6⟩
    · rw [pk_v0]
      try rfl
    · rw [pk_o0]
      exact I1
theorem pk_r4 {f : Nat → Nat} {n q : Nat} {τ : sg_S} (h : pr_I τ f n q) : pk_X f n 4 (pt_r 4) q τ (pk_C 4 τ) := by
  show pk_X f n 4 [49, 32, 50] q τ (pk_C 4 τ)
  unfold pk_C
  obtain ⟨τ1, a1, a2, a3, a4, a5, a6⟩ := pr_dg (M := 1) (by decide) h
  have a1' : f_X8_digits 1 τ = some (nb (pt_d f n 1 q 0).1, τ1) := a1
  rw [if_pos (by decide), a1', nb_bnd2]
  unfold pk_X
  rw [pk_o1]
  by_cases z : (pt_d f n 1 q 0).2 = 0
  · have w1 := a4 (fun c => c z)
    rw [if_pos z]
    rw [z] at a2
    exact Or.inr ⟨rfl, τ1, pk_31b w1, a2, w1, a6⟩
  · have I1 := pr_Ix h a6 a2 (a3 z) a5
    rw [if_neg z, pk_v1 z]
    unfold f_X8_command_J31 f_X8_command_J51 f_X8_command_J61
    rw [if_neg (by decide), if_neg (by decide), if_neg (by decide), if_neg (by decide), if_pos (by decide)]
    obtain ⟨τ2, v2, b1, b2, b3⟩ := pr_bl (M := 2) (by decide) I1
    have b1' : f_X8_blankAnd 2 τ1 = some (nb v2, τ2) := b1
    rw [b1', nb_bnd2, pk_o3]
    by_cases y : pt_h f n (q + (pt_d f n 1 q 0).2) = 32
    · obtain ⟨e2, c2, c3, c4, c5, c6⟩ := b2 y
      rw [if_pos y, pk_v3 y, pk_o2]
      by_cases x : (pt_d f n 2 (q + (pt_d f n 1 q 0).2 + 1) 0).2 = 0
      · have w2 := c4 (fun c => c x)
        rw [if_pos x]
        rw [x] at c2
        exact Or.inr ⟨rfl, τ2, pk_67b w2, c2, w2, pr_Ftr a6 c6⟩
      · have I2 := pr_Ix I1 c6 c2 (c3 x) c5
        rw [if_neg x, pk_v2 x]
        unfold f_X8_command_J67
        rw [if_neg (by decide), e2]
        refine Or.inl ⟨by rw [pk_o0], τ2, ?_, ?_, pr_Ftr a6 c6⟩
        · rw [pk_v0]
          try rfl
        · rw [pk_o0]
          exact I2
    · obtain ⟨c2, c3, c4, c5, c6⟩ := b3 y
      have w2 := c4 (fun c => c)
      rw [if_neg y]
      exact Or.inr ⟨rfl, τ2, pk_67b w2, c2, w2, pr_Ftr a6 c6⟩
theorem pk_r5 {f : Nat → Nat} {n q : Nat} {τ : sg_S} (h : pr_I τ f n q) : pk_X f n 5 (pt_r 5) q τ (pk_C 5 τ) := by
  show pk_X f n 5 [49, 32, 49] q τ (pk_C 5 τ)
  unfold pk_C
  obtain ⟨τ1, a1, a2, a3, a4, a5, a6⟩ := pr_dg (M := 1) (by decide) h
  have a1' : f_X8_digits 1 τ = some (nb (pt_d f n 1 q 0).1, τ1) := a1
  rw [if_pos (by decide), a1', nb_bnd2]
  unfold pk_X
  rw [pk_o1]
  by_cases z : (pt_d f n 1 q 0).2 = 0
  · have w1 := a4 (fun c => c z)
    rw [if_pos z]
    rw [z] at a2
    exact Or.inr ⟨rfl, τ1, pk_31b w1, a2, w1, a6⟩
  · have I1 := pr_Ix h a6 a2 (a3 z) a5
    rw [if_neg z, pk_v1 z]
    unfold f_X8_command_J31 f_X8_command_J45
    rw [if_neg (by decide), if_neg (by decide), if_pos (by decide)]
    obtain ⟨τ2, v2, b1, b2, b3⟩ := pr_bl (M := 1) (by decide) I1
    have b1' : f_X8_blankAnd 1 τ1 = some (nb v2, τ2) := b1
    rw [b1', nb_bnd2, pk_o3]
    by_cases y : pt_h f n (q + (pt_d f n 1 q 0).2) = 32
    · obtain ⟨e2, c2, c3, c4, c5, c6⟩ := b2 y
      rw [if_pos y, pk_v3 y, pk_o1]
      by_cases x : (pt_d f n 1 (q + (pt_d f n 1 q 0).2 + 1) 0).2 = 0
      · have w2 := c4 (fun c => c x)
        rw [if_pos x]
        rw [x] at c2
        exact Or.inr ⟨rfl, τ2, pk_51b w2, c2, w2, pr_Ftr a6 c6⟩
      · have I2 := pr_Ix I1 c6 c2 (c3 x) c5
        rw [if_neg x, pk_v1 x]
        unfold f_X8_command_J51 f_X8_command_J67
        rw [if_neg (by decide), if_neg (by decide), if_neg (by decide), e2]
        refine Or.inl ⟨by rw [pk_o0], τ2, ?_, ?_, pr_Ftr a6 c6⟩
        · rw [pk_v0]
          try rfl
        · rw [pk_o0]
          exact I2
    · obtain ⟨c2, c3, c4, c5, c6⟩ := b3 y
      have w2 := c4 (fun c => c)
      rw [if_neg y]
      exact Or.inr ⟨rfl, τ2, pk_51b w2, c2, w2, pr_Ftr a6 c6⟩
theorem pk_r6 {f : Nat → Nat} {n q : Nat} {τ : sg_S} (h : pr_I τ f n q) : pk_X f n 6 (pt_r 6) q τ (pk_C 6 τ) := by
  show pk_X f n 6 [49] q τ (pk_C 6 τ)
  unfold pk_C
  obtain ⟨τ1, a1, a2, a3, a4, a5, a6⟩ := pr_dg (M := 1) (by decide) h
  have a1' : f_X8_digits 1 τ = some (nb (pt_d f n 1 q 0).1, τ1) := a1
  rw [if_pos (by decide), a1', nb_bnd2]
  unfold pk_X
  rw [pk_o1]
  by_cases z : (pt_d f n 1 q 0).2 = 0
  · have w1 := a4 (fun c => c z)
    rw [if_pos z]
    rw [z] at a2
    exact Or.inr ⟨rfl, τ1, pk_31b w1, a2, w1, a6⟩
  · have I1 := pr_Ix h a6 a2 (a3 z) a5
    rw [if_neg z, pk_v1 z]
    unfold f_X8_command_J31 f_X8_command_J51 f_X8_command_J67
    rw [if_neg (by decide), if_neg (by decide), if_neg (by decide), if_neg (by decide), if_neg (by decide), if_neg (by decide)]
    refine Or.inl ⟨by rw [pk_o0], τ1, ?_, ?_, a6⟩
    · rw [pk_v0]
      try rfl
    · rw [pk_o0]
      exact I1
theorem pk_r7 {f : Nat → Nat} {n q : Nat} {τ : sg_S} (h : pr_I τ f n q) : pk_X f n 7 (pt_r 7) q τ (pk_C 7 τ) := by
  show pk_X f n 7 [] q τ (pk_C 7 τ)
  unfold pk_C
  rw [if_neg (by decide)]
  unfold f_X8_command_J31 f_X8_command_J51 f_X8_command_J67
  rw [if_neg (by decide), if_neg (by decide), if_neg (by decide), if_neg (by decide), if_neg (by decide), if_neg (by decide)]
  refine Or.inl ⟨by rw [pk_o0], τ, ?_, ?_, pr_Frf τ⟩
  · rw [pk_v0]
    try rfl
  · rw [pk_o0]
    exact h
theorem pk_rest {f : Nat → Nat} {n q k : Nat} {τ : sg_S} (hk : k < 8) (h : pr_I τ f n q) : pk_X f n k (pt_r k) q τ (pk_C k τ) := by
  rcases (by omega : k = 0 ∨ k = 1 ∨ k = 2 ∨ k = 3 ∨ k = 4 ∨ k = 5 ∨ k = 6 ∨ k = 7) with rfl | rfl | rfl | rfl | rfl | rfl | rfl | rfl
  · exact pk_r0 h
  · exact pk_r1 h
  · exact pk_r2 h
  · exact pk_r3 h
  · exact pk_r4 h
  · exact pk_r5 h
  · exact pk_r6 h
  · exact pk_r7 h
/-- the reference's command: one kind is there, or none, and then how far all forms go -/
theorem pk_com {f : Nat → Nat} {n p : Nat} {τ : sg_S} (h : pr_I τ f n p) : (∃ k, k < 8 ∧ (pt_o f n (pt_f k) p).1 = true ∧ (∀ j, j < 8 → j ≠ k → (pt_o f n (pt_f j) p).1 = false) ∧ ∃ τ2, f_X8_command τ = f_X8_command_J79 (nb k) (nb (pt_v f n (pt_f k) p 0 (fun _ => 0) 0)) (nb (pt_v f n (pt_f k) p 0 (fun _ => 0) 1)) (nb (pt_v f n (pt_f k) p 0 (fun _ => 0) 2)) τ2 ∧ pr_I τ2 f n (pt_o f n (pt_f k) p).2 ∧ pr_F τ τ2) ∨ ((∀ j, j < 8 → (pt_o f n (pt_f j) p).1 = false) ∧ ∃ τ2, f_X8_command τ = some τ2 ∧ τ2 0 22 = nb (pt_g f n p 8) ∧ τ2 0 25 = 1 ∧ pr_F τ τ2) := by
  have gm := pt_gmax (f := f) (n := n) (p := p) 8
  unfold f_X8_command
  rcases pr_word h with ⟨k, τ1, hk, hm, ew, hI, hF⟩ | ⟨M, τ1, hM, ⟨k, hk, hkM⟩, ew, c22, c25, hF⟩
  · have ek := pt_o1 (f := f) (n := n) (p := p) hk hm
    obtain ⟨y1, y2, y3, y4, y5, y6⟩ := pt_wr k hk
    have ev : ∀ s, pt_v f n (pt_f k) p 0 s = pt_v f n (pt_r k) (p + (pt_w k).length) 0 s := fun s => by rw [y1, pt_va _ _ (fun x hx => ⟨(y4 x hx).1, (y4 x hx).2.1⟩) hm]
    have oth : ∀ j, j < 8 → j ≠ k → (pt_o f n (pt_f j) p).1 = false ∧ (pt_o f n (pt_f j) p).2 ≤ p + (pt_w k).length := fun j hj hjk => by
      obtain ⟨u1, u2⟩ := pt_uni hk hj (fun e => hjk e.symm) hm
      rw [pt_o0 hj (by omega)]
      exact ⟨rfl, by show p + pt_m f n (pt_w j) p ≤ _; omega⟩
    have eC : sg_bnd2 (f_X8_word τ) (fun r3 τ1 => (if τ1 0 25 = 0 then (if r3 < 7 then sg_bnd2 (f_X8_digits 1 τ1) (fun r18 τ16 => f_X8_command_J31 r3 r18 0 0 τ16) else f_X8_command_J31 r3 0 0 0 τ1) else f_X8_command_J31 r3 0 0 0 τ1)) = pk_C k τ1 := by
      rw [ew, nb_bnd2, hI.2.2.2.2.1, if_pos rfl]
      rfl
    rw [eC]
    rcases pk_rest hk hI with ⟨a, τ2, b, c, d⟩ | ⟨a, τ2, b, c, d, e⟩
    · refine Or.inl ⟨k, hk, by rw [ek]; exact a, fun j hj hjk => (oth j hj hjk).1, ?_⟩
      rw [ev, ek]
      exact ⟨τ2, b, c, pr_Ftr hF d⟩
    · refine Or.inr ⟨fun j hj => ?_, τ2, b, ?_, d, pr_Ftr hF e⟩
      · by_cases z : j = k
        · rw [z, ek]
          exact a
        · exact (oth j hj z).1
      · rw [c]
        congr 1
        have g1 := gm.2.1 k hk
        rw [ek] at g1
        have g2 := (pt_oge (f := f) (n := n) (pt_r k) (p + (pt_w k).length)).1
        rcases gm.2.2 with g3 | ⟨j, hj, g3⟩
        · omega
        · by_cases z : j = k
          · rw [g3, z, ek]
          · have := (oth j hj z).2
            omega
  · refine Or.inr ⟨fun j hj => ?_, τ1, ?_, ?_, c25, hF⟩
    · rw [pt_o0 hj (by have := (hM j hj).2; omega)]
    · rw [ew, nb_bnd2, c25, if_neg nb_10, pk_31b c25]
    · rw [c22]
      congr 1
      have e : ∀ j, j < 8 → (pt_o f n (pt_f j) p).2 = p + pt_m f n (pt_w j) p := fun j hj => by rw [pt_o0 hj (by have := (hM j hj).2; omega)]
      have g1 := gm.2.1 k hk
      rw [e k hk, hkM] at g1
      rcases gm.2.2 with g3 | ⟨j, hj, g3⟩
      · omega
      · rw [e j hj] at g3
        have := (hM j hj).1
        omega
