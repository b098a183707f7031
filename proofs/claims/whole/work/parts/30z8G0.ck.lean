/-! ===== the checks, by the kernel ===== -/
set_option maxRecDepth 100000 in
theorem ck_0 : mb_ me_0 = true := by decide +kernel
set_option maxRecDepth 100000 in
theorem ce_0 : cz_0.all (ek_ mt_F me_0.2) = true := by decide +kernel
set_option maxRecDepth 100000 in
theorem ck_1 : mb_ me_1 = true := by decide +kernel
set_option maxRecDepth 100000 in
theorem ce_1 : cz_1.all (ek_ mt_F me_1.2) = true := by decide +kernel
set_option maxRecDepth 100000 in
theorem ck_2 : mb_ me_2 = true := by decide +kernel
set_option maxRecDepth 100000 in
theorem ce_2 : cz_2.all (ek_ mt_F me_2.2) = true := by decide +kernel
set_option maxRecDepth 100000 in
theorem ck_3 : mb_ me_3 = true := by decide +kernel
set_option maxRecDepth 100000 in
theorem ce_3 : cz_3.all (ek_ mt_F me_3.2) = true := by decide +kernel
set_option maxRecDepth 100000 in
theorem ck_4 : mb_ me_4 = true := by decide +kernel
set_option maxRecDepth 100000 in
theorem ce_4 : cz_4.all (ek_ mt_F me_4.2) = true := by decide +kernel
set_option maxRecDepth 100000 in
theorem ck_5 : mb_ me_5 = true := by decide +kernel
set_option maxRecDepth 100000 in
theorem ce_5 : cz_5.all (ek_ mt_F me_5.2) = true := by decide +kernel
set_option maxRecDepth 100000 in
theorem ck_6 : mb_ me_6 = true := by decide +kernel
set_option maxRecDepth 100000 in
theorem ce_6 : cz_6.all (ek_ mt_F me_6.2) = true := by decide +kernel
set_option maxRecDepth 100000 in
theorem ck_7 : mb_ me_7 = true := by decide +kernel
set_option maxRecDepth 100000 in
theorem ce_7 : cz_7.all (ek_ mt_F me_7.2) = true := by decide +kernel
set_option maxRecDepth 100000 in
theorem ck_8 : mb_ me_8 = true := by decide +kernel
set_option maxRecDepth 100000 in
theorem ce_8 : cz_8.all (ek_ mt_F me_8.2) = true := by decide +kernel
set_option maxRecDepth 100000 in
theorem ck_9 : mb_ me_9 = true := by decide +kernel
set_option maxRecDepth 100000 in
theorem ce_9 : cz_9.all (ek_ mt_F me_9.2) = true := by decide +kernel
set_option maxRecDepth 100000 in
theorem ck_10 : mb_ me_10 = true := by decide +kernel
set_option maxRecDepth 100000 in
theorem ce_10 : cz_10.all (ek_ mt_F me_10.2) = true := by decide +kernel
set_option maxRecDepth 100000 in
theorem ck_11 : mb_ me_11 = true := by decide +kernel
set_option maxRecDepth 100000 in
theorem ce_11 : cz_11.all (ek_ mt_F me_11.2) = true := by decide +kernel
set_option maxRecDepth 100000 in
theorem ck_12 : mb_ me_12 = true := by decide +kernel
set_option maxRecDepth 100000 in
theorem ce_12 : cz_12.all (ek_ mt_F me_12.2) = true := by decide +kernel
set_option maxRecDepth 100000 in
theorem ck_13 : mb_ me_13 = true := by decide +kernel
set_option maxRecDepth 100000 in
theorem ce_13 : cz_13.all (ek_ mt_F me_13.2) = true := by decide +kernel
set_option maxRecDepth 100000 in
theorem ck_14 : mb_ me_14 = true := by decide +kernel
set_option maxRecDepth 100000 in
theorem ce_14 : cz_14.all (ek_ mt_F me_14.2) = true := by decide +kernel
set_option maxRecDepth 100000 in
theorem ck_15 : mb_ me_15 = true := by decide +kernel
set_option maxRecDepth 100000 in
theorem ce_15 : cz_15.all (ek_ mt_F me_15.2) = true := by decide +kernel
set_option maxRecDepth 100000 in
theorem ck_16 : mb_ me_16 = true := by decide +kernel
set_option maxRecDepth 100000 in
theorem ce_16 : cz_16.all (ek_ mt_F me_16.2) = true := by decide +kernel
set_option maxRecDepth 100000 in
theorem ck_17 : mb_ me_17 = true := by decide +kernel
set_option maxRecDepth 100000 in
theorem ce_17 : cz_17.all (ek_ mt_F me_17.2) = true := by decide +kernel
set_option maxRecDepth 100000 in
theorem ck_18 : mb_ me_18 = true := by decide +kernel
set_option maxRecDepth 100000 in
theorem ce_18 : cz_18.all (ek_ mt_F me_18.2) = true := by decide +kernel
set_option maxRecDepth 100000 in
theorem ck_19 : mb_ me_19 = true := by decide +kernel
set_option maxRecDepth 100000 in
theorem ce_19 : cz_19.all (ek_ mt_F me_19.2) = true := by decide +kernel
set_option maxRecDepth 100000 in
theorem ck_20 : mb_ me_20 = true := by decide +kernel
set_option maxRecDepth 100000 in
theorem ce_20 : cz_20.all (ek_ mt_F me_20.2) = true := by decide +kernel
set_option maxRecDepth 100000 in
theorem ck_21 : mb_ me_21 = true := by decide +kernel
set_option maxRecDepth 100000 in
theorem ce_21 : cz_21.all (ek_ mt_F me_21.2) = true := by decide +kernel
set_option maxRecDepth 100000 in
theorem ck_22 : mb_ me_22 = true := by decide +kernel
set_option maxRecDepth 100000 in
theorem ce_22 : cz_22.all (ek_ mt_F me_22.2) = true := by decide +kernel
set_option maxRecDepth 100000 in
theorem ck_23 : mb_ me_23 = true := by decide +kernel
set_option maxRecDepth 100000 in
theorem ce_23 : cz_23.all (ek_ mt_F me_23.2) = true := by decide +kernel
set_option maxRecDepth 100000 in
theorem ck_24 : mb_ me_24 = true := by decide +kernel
set_option maxRecDepth 100000 in
theorem ce_24 : cz_24.all (ek_ mt_F me_24.2) = true := by decide +kernel
set_option maxRecDepth 100000 in
theorem ck_25 : mb_ me_25 = true := by decide +kernel
set_option maxRecDepth 100000 in
theorem ce_25 : cz_25.all (ek_ mt_F me_25.2) = true := by decide +kernel
set_option maxRecDepth 100000 in
theorem ck_26 : mb_ me_26 = true := by decide +kernel
set_option maxRecDepth 100000 in
theorem ce_26 : cz_26.all (ek_ mt_F me_26.2) = true := by decide +kernel
set_option maxRecDepth 100000 in
theorem ck_27 : mb_ me_27 = true := by decide +kernel
set_option maxRecDepth 100000 in
theorem ce_27 : cz_27.all (ek_ mt_F me_27.2) = true := by decide +kernel
set_option maxRecDepth 100000 in
theorem ck_28 : mb_ me_28 = true := by decide +kernel
set_option maxRecDepth 100000 in
theorem ce_28 : cz_28.all (ek_ mt_F me_28.2) = true := by decide +kernel
set_option maxRecDepth 100000 in
theorem ck_29 : mb_ me_29 = true := by decide +kernel
set_option maxRecDepth 100000 in
theorem ce_29 : cz_29.all (ek_ mt_F me_29.2) = true := by decide +kernel
set_option maxRecDepth 100000 in
theorem ck_30 : mb_ me_30 = true := by decide +kernel
set_option maxRecDepth 100000 in
theorem ce_30 : cz_30.all (ek_ mt_F me_30.2) = true := by decide +kernel
set_option maxRecDepth 100000 in
theorem ck_31 : mb_ me_31 = true := by decide +kernel
set_option maxRecDepth 100000 in
theorem ce_31 : cz_31.all (ek_ mt_F me_31.2) = true := by decide +kernel
set_option maxRecDepth 100000 in
theorem ck_32 : mb_ me_32 = true := by decide +kernel
set_option maxRecDepth 100000 in
theorem ce_32 : cz_32.all (ek_ mt_F me_32.2) = true := by decide +kernel
set_option maxRecDepth 100000 in
theorem ck_33 : mb_ me_33 = true := by decide +kernel
set_option maxRecDepth 100000 in
theorem ce_33 : cz_33.all (ek_ mt_F me_33.2) = true := by decide +kernel
set_option maxRecDepth 100000 in
theorem ck_34 : mb_ me_34 = true := by decide +kernel
set_option maxRecDepth 100000 in
theorem ce_34 : cz_34.all (ek_ mt_F me_34.2) = true := by decide +kernel
set_option maxRecDepth 100000 in
theorem ck_35 : mb_ me_35 = true := by decide +kernel
set_option maxRecDepth 100000 in
theorem ce_35 : cz_35.all (ek_ mt_F me_35.2) = true := by decide +kernel
set_option maxRecDepth 100000 in
theorem ck_36 : mb_ me_36 = true := by decide +kernel
set_option maxRecDepth 100000 in
theorem ce_36 : cz_36.all (ek_ mt_F me_36.2) = true := by decide +kernel
set_option maxRecDepth 100000 in
theorem ck_37 : mb_ me_37 = true := by decide +kernel
set_option maxRecDepth 100000 in
theorem ce_37 : cz_37.all (ek_ mt_F me_37.2) = true := by decide +kernel
set_option maxRecDepth 100000 in
theorem ck_38 : mb_ me_38 = true := by decide +kernel
set_option maxRecDepth 100000 in
theorem ce_38 : cz_38.all (ek_ mt_F me_38.2) = true := by decide +kernel
set_option maxRecDepth 100000 in
theorem ck_39 : mb_ me_39 = true := by decide +kernel
set_option maxRecDepth 100000 in
theorem ce_39 : cz_39.all (ek_ mt_F me_39.2) = true := by decide +kernel
set_option maxRecDepth 100000 in
theorem ck_40 : mb_ me_40 = true := by decide +kernel
set_option maxRecDepth 100000 in
theorem ce_40 : cz_40.all (ek_ mt_F me_40.2) = true := by decide +kernel
set_option maxRecDepth 100000 in
theorem ck_41 : mb_ me_41 = true := by decide +kernel
set_option maxRecDepth 100000 in
theorem ce_41 : cz_41.all (ek_ mt_F me_41.2) = true := by decide +kernel
set_option maxRecDepth 100000 in
theorem ck_42 : mb_ me_42 = true := by decide +kernel
set_option maxRecDepth 100000 in
theorem ce_42 : cz_42.all (ek_ mt_F me_42.2) = true := by decide +kernel
set_option maxRecDepth 100000 in
theorem ck_43 : mb_ me_43 = true := by decide +kernel
set_option maxRecDepth 100000 in
theorem ce_43 : cz_43.all (ek_ mt_F me_43.2) = true := by decide +kernel
set_option maxRecDepth 100000 in
theorem ck_44 : mb_ me_44 = true := by decide +kernel
set_option maxRecDepth 100000 in
theorem ce_44 : cz_44.all (ek_ mt_F me_44.2) = true := by decide +kernel
set_option maxRecDepth 100000 in
theorem ck_45 : mb_ me_45 = true := by decide +kernel
set_option maxRecDepth 100000 in
theorem ce_45 : cz_45.all (ek_ mt_F me_45.2) = true := by decide +kernel
