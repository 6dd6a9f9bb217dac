set_option maxRecDepth 100000 in
theorem evP : f_L_law_52 (fun j => xsP.getD j 0) 112 zP0 zP0 zP0 zT2 zP0 zP0 zL0 zP0 zL0 0 = some 168 := by decide +kernel
