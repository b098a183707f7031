/-! ===== the checks, by the kernel ===== -/
set_option maxRecDepth 100000 in
theorem ck_92 : mb_ me_92 = true := by decide +kernel
set_option maxRecDepth 100000 in
theorem ce_92 : cz_92.all (ek_ mt_F me_92.2) = true := by decide +kernel
set_option maxRecDepth 100000 in
theorem ck_93 : mb_ me_93 = true := by decide +kernel
set_option maxRecDepth 100000 in
theorem ce_93 : cz_93.all (ek_ mt_F me_93.2) = true := by decide +kernel
set_option maxRecDepth 100000 in
theorem ck_94 : mb_ me_94 = true := by decide +kernel
set_option maxRecDepth 100000 in
theorem ce_94 : cz_94.all (ek_ mt_F me_94.2) = true := by decide +kernel
set_option maxRecDepth 100000 in
theorem ck_95 : mb_ me_95 = true := by decide +kernel
set_option maxRecDepth 100000 in
theorem ce_95 : cz_95.all (ek_ mt_F me_95.2) = true := by decide +kernel
set_option maxRecDepth 100000 in
theorem ck_96 : mb_ me_96 = true := by decide +kernel
set_option maxRecDepth 100000 in
theorem ce_96 : cz_96.all (ek_ mt_F me_96.2) = true := by decide +kernel
set_option maxRecDepth 100000 in
theorem ck_97 : mb_ me_97 = true := by decide +kernel
set_option maxRecDepth 100000 in
theorem ce_97 : cz_97.all (ek_ mt_F me_97.2) = true := by decide +kernel
set_option maxRecDepth 100000 in
theorem ck_98 : mb_ me_98 = true := by decide +kernel
set_option maxRecDepth 100000 in
theorem ce_98 : cz_98.all (ek_ mt_F me_98.2) = true := by decide +kernel
set_option maxRecDepth 100000 in
theorem ck_99 : mb_ me_99 = true := by decide +kernel
set_option maxRecDepth 100000 in
theorem ce_99 : cz_99.all (ek_ mt_F me_99.2) = true := by decide +kernel
set_option maxRecDepth 100000 in
theorem ck_100 : mb_ me_100 = true := by decide +kernel
set_option maxRecDepth 100000 in
theorem ce_100 : cz_100.all (ek_ mt_F me_100.2) = true := by decide +kernel
set_option maxRecDepth 100000 in
theorem ck_101 : mb_ me_101 = true := by decide +kernel
set_option maxRecDepth 100000 in
theorem ce_101 : cz_101.all (ek_ mt_F me_101.2) = true := by decide +kernel
set_option maxRecDepth 100000 in
theorem ck_102 : mb_ me_102 = true := by decide +kernel
set_option maxRecDepth 100000 in
theorem ce_102 : cz_102.all (ek_ mt_F me_102.2) = true := by decide +kernel
set_option maxRecDepth 100000 in
theorem ck_103 : mb_ me_103 = true := by decide +kernel
set_option maxRecDepth 100000 in
theorem ce_103 : cz_103.all (ek_ mt_F me_103.2) = true := by decide +kernel
set_option maxRecDepth 100000 in
theorem ck_104 : mb_ me_104 = true := by decide +kernel
set_option maxRecDepth 100000 in
theorem ce_104 : cz_104.all (ek_ mt_F me_104.2) = true := by decide +kernel
set_option maxRecDepth 100000 in
theorem ck_105 : mb_ me_105 = true := by decide +kernel
set_option maxRecDepth 100000 in
theorem ce_105 : cz_105.all (ek_ mt_F me_105.2) = true := by decide +kernel
set_option maxRecDepth 100000 in
theorem ck_106 : mb_ me_106 = true := by decide +kernel
set_option maxRecDepth 100000 in
theorem ce_106 : cz_106.all (ek_ mt_F me_106.2) = true := by decide +kernel
set_option maxRecDepth 100000 in
theorem ck_107 : mb_ me_107 = true := by decide +kernel
set_option maxRecDepth 100000 in
theorem ce_107 : cz_107.all (ek_ mt_F me_107.2) = true := by decide +kernel
set_option maxRecDepth 100000 in
theorem ck_108 : mb_ me_108 = true := by decide +kernel
set_option maxRecDepth 100000 in
theorem ce_108 : cz_108.all (ek_ mt_F me_108.2) = true := by decide +kernel
set_option maxRecDepth 100000 in
theorem ck_109 : mb_ me_109 = true := by decide +kernel
set_option maxRecDepth 100000 in
theorem ce_109 : cz_109.all (ek_ mt_F me_109.2) = true := by decide +kernel
set_option maxRecDepth 100000 in
theorem ck_110 : mb_ me_110 = true := by decide +kernel
set_option maxRecDepth 100000 in
theorem ce_110 : cz_110.all (ek_ mt_F me_110.2) = true := by decide +kernel
set_option maxRecDepth 100000 in
theorem ck_111 : mb_ me_111 = true := by decide +kernel
set_option maxRecDepth 100000 in
theorem ce_111 : cz_111.all (ek_ mt_F me_111.2) = true := by decide +kernel
set_option maxRecDepth 100000 in
theorem ck_112 : mb_ me_112 = true := by decide +kernel
set_option maxRecDepth 100000 in
theorem ce_112 : cz_112.all (ek_ mt_F me_112.2) = true := by decide +kernel
set_option maxRecDepth 100000 in
theorem ck_113 : mb_ me_113 = true := by decide +kernel
set_option maxRecDepth 100000 in
theorem ce_113 : cz_113.all (ek_ mt_F me_113.2) = true := by decide +kernel
set_option maxRecDepth 100000 in
theorem ck_114 : mb_ me_114 = true := by decide +kernel
set_option maxRecDepth 100000 in
theorem ce_114 : cz_114.all (ek_ mt_F me_114.2) = true := by decide +kernel
set_option maxRecDepth 100000 in
theorem ck_115 : mb_ me_115 = true := by decide +kernel
set_option maxRecDepth 100000 in
theorem ce_115 : cz_115.all (ek_ mt_F me_115.2) = true := by decide +kernel
set_option maxRecDepth 100000 in
theorem ck_116 : mb_ me_116 = true := by decide +kernel
set_option maxRecDepth 100000 in
theorem ce_116 : cz_116.all (ek_ mt_F me_116.2) = true := by decide +kernel
set_option maxRecDepth 100000 in
theorem ck_117 : mb_ me_117 = true := by decide +kernel
set_option maxRecDepth 100000 in
theorem ce_117 : cz_117.all (ek_ mt_F me_117.2) = true := by decide +kernel
set_option maxRecDepth 100000 in
theorem ck_118 : mb_ me_118 = true := by decide +kernel
set_option maxRecDepth 100000 in
theorem ce_118 : cz_118.all (ek_ mt_F me_118.2) = true := by decide +kernel
set_option maxRecDepth 100000 in
theorem ck_119 : mb_ me_119 = true := by decide +kernel
set_option maxRecDepth 100000 in
theorem ce_119 : cz_119.all (ek_ mt_F me_119.2) = true := by decide +kernel
set_option maxRecDepth 100000 in
theorem ck_120 : mb_ me_120 = true := by decide +kernel
set_option maxRecDepth 100000 in
theorem ce_120 : cz_120.all (ek_ mt_F me_120.2) = true := by decide +kernel
set_option maxRecDepth 100000 in
theorem ck_121 : mb_ me_121 = true := by decide +kernel
set_option maxRecDepth 100000 in
theorem ce_121 : cz_121.all (ek_ mt_F me_121.2) = true := by decide +kernel
set_option maxRecDepth 100000 in
theorem ck_122 : mb_ me_122 = true := by decide +kernel
set_option maxRecDepth 100000 in
theorem ce_122 : cz_122.all (ek_ mt_F me_122.2) = true := by decide +kernel
set_option maxRecDepth 100000 in
theorem ck_123 : mb_ me_123 = true := by decide +kernel
set_option maxRecDepth 100000 in
theorem ce_123 : cz_123.all (ek_ mt_F me_123.2) = true := by decide +kernel
set_option maxRecDepth 100000 in
theorem ck_124 : mb_ me_124 = true := by decide +kernel
set_option maxRecDepth 100000 in
theorem ce_124 : cz_124.all (ek_ mt_F me_124.2) = true := by decide +kernel
set_option maxRecDepth 100000 in
theorem ck_125 : mb_ me_125 = true := by decide +kernel
set_option maxRecDepth 100000 in
theorem ce_125 : cz_125.all (ek_ mt_F me_125.2) = true := by decide +kernel
set_option maxRecDepth 100000 in
theorem ck_126 : mb_ me_126 = true := by decide +kernel
set_option maxRecDepth 100000 in
theorem ce_126 : cz_126.all (ek_ mt_F me_126.2) = true := by decide +kernel
set_option maxRecDepth 100000 in
theorem ck_127 : mb_ me_127 = true := by decide +kernel
set_option maxRecDepth 100000 in
theorem ce_127 : cz_127.all (ek_ mt_F me_127.2) = true := by decide +kernel
set_option maxRecDepth 100000 in
theorem ck_128 : mb_ me_128 = true := by decide +kernel
set_option maxRecDepth 100000 in
theorem ce_128 : cz_128.all (ek_ mt_F me_128.2) = true := by decide +kernel
set_option maxRecDepth 100000 in
theorem ck_129 : mb_ me_129 = true := by decide +kernel
set_option maxRecDepth 100000 in
theorem ce_129 : cz_129.all (ek_ mt_F me_129.2) = true := by decide +kernel
set_option maxRecDepth 100000 in
theorem ck_130 : mb_ me_130 = true := by decide +kernel
set_option maxRecDepth 100000 in
theorem ce_130 : cz_130.all (ek_ mt_F me_130.2) = true := by decide +kernel
set_option maxRecDepth 100000 in
theorem ck_131 : mb_ me_131 = true := by decide +kernel
set_option maxRecDepth 100000 in
theorem ce_131 : cz_131.all (ek_ mt_F me_131.2) = true := by decide +kernel
set_option maxRecDepth 100000 in
theorem ck_132 : mb_ me_132 = true := by decide +kernel
set_option maxRecDepth 100000 in
theorem ce_132 : cz_132.all (ek_ mt_F me_132.2) = true := by decide +kernel
set_option maxRecDepth 100000 in
theorem ck_133 : mb_ me_133 = true := by decide +kernel
set_option maxRecDepth 100000 in
theorem ce_133 : cz_133.all (ek_ mt_F me_133.2) = true := by decide +kernel
set_option maxRecDepth 100000 in
theorem ck_134 : mb_ me_134 = true := by decide +kernel
set_option maxRecDepth 100000 in
theorem ce_134 : cz_134.all (ek_ mt_F me_134.2) = true := by decide +kernel
set_option maxRecDepth 100000 in
theorem ck_135 : mb_ me_135 = true := by decide +kernel
set_option maxRecDepth 100000 in
theorem ce_135 : cz_135.all (ek_ mt_F me_135.2) = true := by decide +kernel
set_option maxRecDepth 100000 in
theorem ck_136 : mb_ me_136 = true := by decide +kernel
set_option maxRecDepth 100000 in
theorem ce_136 : cz_136.all (ek_ mt_F me_136.2) = true := by decide +kernel
set_option maxRecDepth 100000 in
theorem ck_137 : mb_ me_137 = true := by decide +kernel
set_option maxRecDepth 100000 in
theorem ce_137 : cz_137.all (ek_ mt_F me_137.2) = true := by decide +kernel
