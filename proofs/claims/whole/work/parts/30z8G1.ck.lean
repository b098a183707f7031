/-! ===== the checks, by the kernel ===== -/
set_option maxRecDepth 100000 in
theorem ck_46 : mb_ me_46 = true := by decide +kernel
set_option maxRecDepth 100000 in
theorem ce_46 : cz_46.all (ek_ mt_F me_46.2) = true := by decide +kernel
set_option maxRecDepth 100000 in
theorem ck_47 : mb_ me_47 = true := by decide +kernel
set_option maxRecDepth 100000 in
theorem ce_47 : cz_47.all (ek_ mt_F me_47.2) = true := by decide +kernel
set_option maxRecDepth 100000 in
theorem ck_48 : mb_ me_48 = true := by decide +kernel
set_option maxRecDepth 100000 in
theorem ce_48 : cz_48.all (ek_ mt_F me_48.2) = true := by decide +kernel
set_option maxRecDepth 100000 in
theorem ck_49 : mb_ me_49 = true := by decide +kernel
set_option maxRecDepth 100000 in
theorem ce_49 : cz_49.all (ek_ mt_F me_49.2) = true := by decide +kernel
set_option maxRecDepth 100000 in
theorem ck_50 : mb_ me_50 = true := by decide +kernel
set_option maxRecDepth 100000 in
theorem ce_50 : cz_50.all (ek_ mt_F me_50.2) = true := by decide +kernel
set_option maxRecDepth 100000 in
theorem ck_51 : mb_ me_51 = true := by decide +kernel
set_option maxRecDepth 100000 in
theorem ce_51 : cz_51.all (ek_ mt_F me_51.2) = true := by decide +kernel
set_option maxRecDepth 100000 in
theorem ck_52 : mb_ me_52 = true := by decide +kernel
set_option maxRecDepth 100000 in
theorem ce_52 : cz_52.all (ek_ mt_F me_52.2) = true := by decide +kernel
set_option maxRecDepth 100000 in
theorem ck_53 : mb_ me_53 = true := by decide +kernel
set_option maxRecDepth 100000 in
theorem ce_53 : cz_53.all (ek_ mt_F me_53.2) = true := by decide +kernel
set_option maxRecDepth 100000 in
theorem ck_54 : mb_ me_54 = true := by decide +kernel
set_option maxRecDepth 100000 in
theorem ce_54 : cz_54.all (ek_ mt_F me_54.2) = true := by decide +kernel
set_option maxRecDepth 100000 in
theorem ck_55 : mb_ me_55 = true := by decide +kernel
set_option maxRecDepth 100000 in
theorem ce_55 : cz_55.all (ek_ mt_F me_55.2) = true := by decide +kernel
set_option maxRecDepth 100000 in
theorem ck_56 : mb_ me_56 = true := by decide +kernel
set_option maxRecDepth 100000 in
theorem ce_56 : cz_56.all (ek_ mt_F me_56.2) = true := by decide +kernel
set_option maxRecDepth 100000 in
theorem ck_57 : mb_ me_57 = true := by decide +kernel
set_option maxRecDepth 100000 in
theorem ce_57 : cz_57.all (ek_ mt_F me_57.2) = true := by decide +kernel
set_option maxRecDepth 100000 in
theorem ck_58 : mb_ me_58 = true := by decide +kernel
set_option maxRecDepth 100000 in
theorem ce_58 : cz_58.all (ek_ mt_F me_58.2) = true := by decide +kernel
set_option maxRecDepth 100000 in
theorem ck_59 : mb_ me_59 = true := by decide +kernel
set_option maxRecDepth 100000 in
theorem ce_59 : cz_59.all (ek_ mt_F me_59.2) = true := by decide +kernel
set_option maxRecDepth 100000 in
theorem ck_60 : mb_ me_60 = true := by decide +kernel
set_option maxRecDepth 100000 in
theorem ce_60 : cz_60.all (ek_ mt_F me_60.2) = true := by decide +kernel
set_option maxRecDepth 100000 in
theorem ck_61 : mb_ me_61 = true := by decide +kernel
set_option maxRecDepth 100000 in
theorem ce_61 : cz_61.all (ek_ mt_F me_61.2) = true := by decide +kernel
set_option maxRecDepth 100000 in
theorem ck_62 : mb_ me_62 = true := by decide +kernel
set_option maxRecDepth 100000 in
theorem ce_62 : cz_62.all (ek_ mt_F me_62.2) = true := by decide +kernel
set_option maxRecDepth 100000 in
theorem ck_63 : mb_ me_63 = true := by decide +kernel
set_option maxRecDepth 100000 in
theorem ce_63 : cz_63.all (ek_ mt_F me_63.2) = true := by decide +kernel
set_option maxRecDepth 100000 in
theorem ck_64 : mb_ me_64 = true := by decide +kernel
set_option maxRecDepth 100000 in
theorem ce_64 : cz_64.all (ek_ mt_F me_64.2) = true := by decide +kernel
set_option maxRecDepth 100000 in
theorem ck_65 : mb_ me_65 = true := by decide +kernel
set_option maxRecDepth 100000 in
theorem ce_65 : cz_65.all (ek_ mt_F me_65.2) = true := by decide +kernel
set_option maxRecDepth 100000 in
theorem ck_66 : mb_ me_66 = true := by decide +kernel
set_option maxRecDepth 100000 in
theorem ce_66 : cz_66.all (ek_ mt_F me_66.2) = true := by decide +kernel
set_option maxRecDepth 100000 in
theorem ck_67 : mb_ me_67 = true := by decide +kernel
set_option maxRecDepth 100000 in
theorem ce_67 : cz_67.all (ek_ mt_F me_67.2) = true := by decide +kernel
set_option maxRecDepth 100000 in
theorem ck_68 : mb_ me_68 = true := by decide +kernel
set_option maxRecDepth 100000 in
theorem ce_68 : cz_68.all (ek_ mt_F me_68.2) = true := by decide +kernel
set_option maxRecDepth 100000 in
theorem ck_69 : mb_ me_69 = true := by decide +kernel
set_option maxRecDepth 100000 in
theorem ce_69 : cz_69.all (ek_ mt_F me_69.2) = true := by decide +kernel
set_option maxRecDepth 100000 in
theorem ck_70 : mb_ me_70 = true := by decide +kernel
set_option maxRecDepth 100000 in
theorem ce_70 : cz_70.all (ek_ mt_F me_70.2) = true := by decide +kernel
set_option maxRecDepth 100000 in
theorem ck_71 : mb_ me_71 = true := by decide +kernel
set_option maxRecDepth 100000 in
theorem ce_71 : cz_71.all (ek_ mt_F me_71.2) = true := by decide +kernel
set_option maxRecDepth 100000 in
theorem ck_72 : mb_ me_72 = true := by decide +kernel
set_option maxRecDepth 100000 in
theorem ce_72 : cz_72.all (ek_ mt_F me_72.2) = true := by decide +kernel
set_option maxRecDepth 100000 in
theorem ck_73 : mb_ me_73 = true := by decide +kernel
set_option maxRecDepth 100000 in
theorem ce_73 : cz_73.all (ek_ mt_F me_73.2) = true := by decide +kernel
set_option maxRecDepth 100000 in
theorem ck_74 : mb_ me_74 = true := by decide +kernel
set_option maxRecDepth 100000 in
theorem ce_74 : cz_74.all (ek_ mt_F me_74.2) = true := by decide +kernel
set_option maxRecDepth 100000 in
theorem ck_75 : mb_ me_75 = true := by decide +kernel
set_option maxRecDepth 100000 in
theorem ce_75 : cz_75.all (ek_ mt_F me_75.2) = true := by decide +kernel
set_option maxRecDepth 100000 in
theorem ck_76 : mb_ me_76 = true := by decide +kernel
set_option maxRecDepth 100000 in
theorem ce_76 : cz_76.all (ek_ mt_F me_76.2) = true := by decide +kernel
set_option maxRecDepth 100000 in
theorem ck_77 : mb_ me_77 = true := by decide +kernel
set_option maxRecDepth 100000 in
theorem ce_77 : cz_77.all (ek_ mt_F me_77.2) = true := by decide +kernel
set_option maxRecDepth 100000 in
theorem ck_78 : mb_ me_78 = true := by decide +kernel
set_option maxRecDepth 100000 in
theorem ce_78 : cz_78.all (ek_ mt_F me_78.2) = true := by decide +kernel
set_option maxRecDepth 100000 in
theorem ck_79 : mb_ me_79 = true := by decide +kernel
set_option maxRecDepth 100000 in
theorem ce_79 : cz_79.all (ek_ mt_F me_79.2) = true := by decide +kernel
set_option maxRecDepth 100000 in
theorem ck_80 : mb_ me_80 = true := by decide +kernel
set_option maxRecDepth 100000 in
theorem ce_80 : cz_80.all (ek_ mt_F me_80.2) = true := by decide +kernel
set_option maxRecDepth 100000 in
theorem ck_81 : mb_ me_81 = true := by decide +kernel
set_option maxRecDepth 100000 in
theorem ce_81 : cz_81.all (ek_ mt_F me_81.2) = true := by decide +kernel
set_option maxRecDepth 100000 in
theorem ck_82 : mb_ me_82 = true := by decide +kernel
set_option maxRecDepth 100000 in
theorem ce_82 : cz_82.all (ek_ mt_F me_82.2) = true := by decide +kernel
set_option maxRecDepth 100000 in
theorem ck_83 : mb_ me_83 = true := by decide +kernel
set_option maxRecDepth 100000 in
theorem ce_83 : cz_83.all (ek_ mt_F me_83.2) = true := by decide +kernel
set_option maxRecDepth 100000 in
theorem ck_84 : mb_ me_84 = true := by decide +kernel
set_option maxRecDepth 100000 in
theorem ce_84 : cz_84.all (ek_ mt_F me_84.2) = true := by decide +kernel
set_option maxRecDepth 100000 in
theorem ck_85 : mb_ me_85 = true := by decide +kernel
set_option maxRecDepth 100000 in
theorem ce_85 : cz_85.all (ek_ mt_F me_85.2) = true := by decide +kernel
set_option maxRecDepth 100000 in
theorem ck_86 : mb_ me_86 = true := by decide +kernel
set_option maxRecDepth 100000 in
theorem ce_86 : cz_86.all (ek_ mt_F me_86.2) = true := by decide +kernel
set_option maxRecDepth 100000 in
theorem ck_87 : mb_ me_87 = true := by decide +kernel
set_option maxRecDepth 100000 in
theorem ce_87 : cz_87.all (ek_ mt_F me_87.2) = true := by decide +kernel
set_option maxRecDepth 100000 in
theorem ck_88 : mb_ me_88 = true := by decide +kernel
set_option maxRecDepth 100000 in
theorem ce_88 : cz_88.all (ek_ mt_F me_88.2) = true := by decide +kernel
set_option maxRecDepth 100000 in
theorem ck_89 : mb_ me_89 = true := by decide +kernel
set_option maxRecDepth 100000 in
theorem ce_89 : cz_89.all (ek_ mt_F me_89.2) = true := by decide +kernel
set_option maxRecDepth 100000 in
theorem ck_90 : mb_ me_90 = true := by decide +kernel
set_option maxRecDepth 100000 in
theorem ce_90 : cz_90.all (ek_ mt_F me_90.2) = true := by decide +kernel
set_option maxRecDepth 100000 in
theorem ck_91 : mb_ me_91 = true := by decide +kernel
set_option maxRecDepth 100000 in
theorem ce_91 : cz_91.all (ek_ mt_F me_91.2) = true := by decide +kernel
