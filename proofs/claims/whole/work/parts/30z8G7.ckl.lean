set_option maxRecDepth 100000 in
theorem cl_200_0 : ((cz_273_200.drop 0).take 40).all (ek_ mt_F me_273.2) = true := by decide +kernel
set_option maxRecDepth 100000 in
theorem cl_200_40 : ((cz_273_200.drop 40).take 40).all (ek_ mt_F me_273.2) = true := by decide +kernel
set_option maxRecDepth 100000 in
theorem cl_200_80 : ((cz_273_200.drop 80).take 40).all (ek_ mt_F me_273.2) = true := by decide +kernel
set_option maxRecDepth 100000 in
theorem cl_200_120 : ((cz_273_200.drop 120).take 40).all (ek_ mt_F me_273.2) = true := by decide +kernel
set_option maxRecDepth 100000 in
theorem cl_200_160 : ((cz_273_200.drop 160).take 40).all (ek_ mt_F me_273.2) = true := by decide +kernel
set_option maxRecDepth 100000 in
theorem cl_800_0 : ((cz_273_800.drop 0).take 40).all (ek_ mt_F me_273.2) = true := by decide +kernel
set_option maxRecDepth 100000 in
theorem cl_800_40 : ((cz_273_800.drop 40).take 40).all (ek_ mt_F me_273.2) = true := by decide +kernel
set_option maxRecDepth 100000 in
theorem cl_800_80 : ((cz_273_800.drop 80).take 40).all (ek_ mt_F me_273.2) = true := by decide +kernel
set_option maxRecDepth 100000 in
theorem cl_800_120 : ((cz_273_800.drop 120).take 40).all (ek_ mt_F me_273.2) = true := by decide +kernel
set_option maxRecDepth 100000 in
theorem cl_800_160 : ((cz_273_800.drop 160).take 40).all (ek_ mt_F me_273.2) = true := by decide +kernel
