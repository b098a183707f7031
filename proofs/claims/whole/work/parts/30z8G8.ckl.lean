set_option maxRecDepth 100000 in
theorem cl_400_0 : ((cz_273_400.drop 0).take 40).all (ek_ mt_F me_273.2) = true := by decide +kernel
set_option maxRecDepth 100000 in
theorem cl_400_40 : ((cz_273_400.drop 40).take 40).all (ek_ mt_F me_273.2) = true := by decide +kernel
set_option maxRecDepth 100000 in
theorem cl_400_80 : ((cz_273_400.drop 80).take 40).all (ek_ mt_F me_273.2) = true := by decide +kernel
set_option maxRecDepth 100000 in
theorem cl_400_120 : ((cz_273_400.drop 120).take 40).all (ek_ mt_F me_273.2) = true := by decide +kernel
set_option maxRecDepth 100000 in
theorem cl_400_160 : ((cz_273_400.drop 160).take 40).all (ek_ mt_F me_273.2) = true := by decide +kernel
set_option maxRecDepth 100000 in
theorem cl_1000_0 : ((cz_273_1000.drop 0).take 40).all (ek_ mt_F me_273.2) = true := by decide +kernel
set_option maxRecDepth 100000 in
theorem cl_1000_40 : ((cz_273_1000.drop 40).take 40).all (ek_ mt_F me_273.2) = true := by decide +kernel
set_option maxRecDepth 100000 in
theorem cl_1000_80 : ((cz_273_1000.drop 80).take 40).all (ek_ mt_F me_273.2) = true := by decide +kernel
set_option maxRecDepth 100000 in
theorem cl_1000_120 : ((cz_273_1000.drop 120).take 40).all (ek_ mt_F me_273.2) = true := by decide +kernel
set_option maxRecDepth 100000 in
theorem cl_1000_160 : ((cz_273_1000.drop 160).take 40).all (ek_ mt_F me_273.2) = true := by decide +kernel
