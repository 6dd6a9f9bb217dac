set_option maxRecDepth 100000 in
theorem evP : f_L_law_52 (fun j => xsP.getD j 0) 112 zP0 zP0 zP0 zT2 zP0 zP0 zL0 zP0 zL0 0 = some 168 := by decide +kernel
set_option maxRecDepth 100000 in
theorem evW : f_L_law_52 (fun j => xsW.getD j 0) 100 zP0 zP0 zP0 zT2 zP0 zP0 zL0 zP0 zL0 0 = some 142 := by decide +kernel
