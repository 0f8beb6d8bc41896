/-! a try of the start -/
def st_t1 : Option (List Int32) :=
  sg_bnd2 (f_X7_undo iX7) fun r1 σ => sg_bnd2 (f_X7_restore σ) fun r2 σ => sg_bnd (f_X7_reason 0 0 σ) fun r3 => sg_bnd (f_X7_reason 2 0 σ) fun r4 => sg_bnd (f_X7_fault σ) fun r5 => sg_bnd2 (f_X7_read σ) fun r6 σ => sg_bnd (f_X7_fault σ) fun r7 => sg_bnd (f_X7_written 0 σ) fun r8 => some [r1, r2, r3, r4, r5, r6, r7, r8]
set_option maxRecDepth 100000 in
theorem st_t1E : st_t1 = some [-3, -3, -3, -2, -3, -2, 0, -1] := by decide +kernel
def st_t2 : Option (List Int32) :=
  sg_bnd2 (f_X7_treaty 0 5 1 iX7) fun r1 σ => sg_bnd2 (f_X7_treaty 2 2 1 σ) fun r2 σ => sg_bnd (f_X7_reason 0 0 σ) fun r3 => sg_bnd (f_X7_reason 0 1 σ) fun r4 => some [r1, r2, r3, r4]
set_option maxRecDepth 100000 in
theorem st_t2E : st_t2 = some [-1, -5, 8, 2] := by decide +kernel
