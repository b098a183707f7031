set_option maxRecDepth 100000 in
theorem cl_0_0 : ((cz_273_0.drop 0).take 40).all (ek_ mt_F me_273.2) = true := by decide +kernel
set_option maxRecDepth 100000 in
theorem cl_0_40 : ((cz_273_0.drop 40).take 40).all (ek_ mt_F me_273.2) = true := by decide +kernel
set_option maxRecDepth 100000 in
theorem cl_0_80 : ((cz_273_0.drop 80).take 40).all (ek_ mt_F me_273.2) = true := by decide +kernel
set_option maxRecDepth 100000 in
theorem cl_0_120 : ((cz_273_0.drop 120).take 40).all (ek_ mt_F me_273.2) = true := by decide +kernel
set_option maxRecDepth 100000 in
theorem cl_0_160 : ((cz_273_0.drop 160).take 40).all (ek_ mt_F me_273.2) = true := by decide +kernel
set_option maxRecDepth 100000 in
theorem cl_600_0 : ((cz_273_600.drop 0).take 40).all (ek_ mt_F me_273.2) = true := by decide +kernel
set_option maxRecDepth 100000 in
theorem cl_600_40 : ((cz_273_600.drop 40).take 40).all (ek_ mt_F me_273.2) = true := by decide +kernel
set_option maxRecDepth 100000 in
theorem cl_600_80 : ((cz_273_600.drop 80).take 40).all (ek_ mt_F me_273.2) = true := by decide +kernel
set_option maxRecDepth 100000 in
theorem cl_600_120 : ((cz_273_600.drop 120).take 40).all (ek_ mt_F me_273.2) = true := by decide +kernel
set_option maxRecDepth 100000 in
theorem cl_600_160 : ((cz_273_600.drop 160).take 40).all (ek_ mt_F me_273.2) = true := by decide +kernel
set_option maxRecDepth 100000 in
theorem cl_1200_0 : ((cz_273_1200.drop 0).take 40).all (ek_ mt_F me_273.2) = true := by decide +kernel
set_option maxRecDepth 100000 in
theorem cl_1200_40 : ((cz_273_1200.drop 40).take 40).all (ek_ mt_F me_273.2) = true := by decide +kernel
set_option maxRecDepth 100000 in
theorem cl_1200_80 : ((cz_273_1200.drop 80).take 40).all (ek_ mt_F me_273.2) = true := by decide +kernel
set_option maxRecDepth 100000 in
theorem cl_1200_120 : ((cz_273_1200.drop 120).take 40).all (ek_ mt_F me_273.2) = true := by decide +kernel
