/-! the start, as it is told -/
def st_r1 : Option (Int32 × sg_S) → (Int32 → sg_S → Option (List Int32)) → Option (List Int32) := fun o f => sg_bnd2 o f
def st_b (o : Option (Int32 × sg_S)) (f : sg_S → Option (List Int32)) : Option (List Int32) := sg_bnd2 o (fun r σ => sg_bnd (f σ) (fun l => some (r :: l)))
def st_a (o : Option Int32) (f : Option (List Int32)) : Option (List Int32) := sg_bnd o (fun r => sg_bnd f (fun l => some (r :: l)))
def st_s (σ : sg_S) : Option (List Int32) :=
  st_b (f_X7_treaty 0 1 1 σ) fun σ => st_b (f_X7_treaty 1 2 1 σ) fun σ => st_b (f_X7_treaty 3 4 1 σ) fun σ => st_b (f_X7_credit 0 12 1 σ) fun σ => st_b (f_X7_credit 2 5 3 σ) fun σ => st_b (f_X7_credit 1 20 2 σ) fun σ => some []
set_option maxRecDepth 100000 in
theorem st_sE : st_s iX7 = some [1, 2, 3, 0, 1, 2] := by decide +kernel
