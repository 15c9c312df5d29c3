/-! every tree is what its bytecode does -/
theorem ee_bok_of {m oc : Nat} {cc : ByteArray} {b : ee_T} (h0 : es_bytes (es_m m).2.2.2.2 = cc) (h : (es_CM.any (fun r => r.1 == m) && (decide (es_own oc = (es_m m).1.cls) && (!ee_isC b && ee_okS cc oc b 0 0))) = true) : ∃ oc cc, ee_bok m oc cc b := by
  simp only [Bool.and_eq_true, decide_eq_true_eq, Bool.not_eq_true'] at h
  exact ⟨oc, cc, h.1, h.2.1, h0, h.2.2.1, h.2.2.2⟩
set_option maxRecDepth 100000 in
theorem eb_9 : ∃ oc cc, ee_bok 9 oc cc bd_9 := ee_bok_of (oc := 0) (cc := prog_1_method_2_code) rfl (by decide +kernel)
set_option maxRecDepth 100000 in
theorem eb_11 : ∃ oc cc, ee_bok 11 oc cc bd_11 := ee_bok_of (oc := 0) (cc := prog_1_method_3_code) rfl (by decide +kernel)
set_option maxRecDepth 100000 in
theorem eb_12 : ∃ oc cc, ee_bok 12 oc cc bd_12 := ee_bok_of (oc := 0) (cc := prog_1_method_4_code) rfl (by decide +kernel)
set_option maxRecDepth 100000 in
theorem eb_13 : ∃ oc cc, ee_bok 13 oc cc bd_13 := ee_bok_of (oc := 0) (cc := prog_1_method_5_code) rfl (by decide +kernel)
set_option maxRecDepth 100000 in
theorem eb_14 : ∃ oc cc, ee_bok 14 oc cc bd_14 := ee_bok_of (oc := 0) (cc := prog_1_method_6_code) rfl (by decide +kernel)
set_option maxRecDepth 100000 in
theorem eb_15 : ∃ oc cc, ee_bok 15 oc cc bd_15 := ee_bok_of (oc := 0) (cc := prog_1_method_7_code) rfl (by decide +kernel)
set_option maxRecDepth 100000 in
theorem eb_60 : ∃ oc cc, ee_bok 60 oc cc bd_60 := ee_bok_of (oc := 0) (cc := prog_1_method_8_code) rfl (by decide +kernel)
set_option maxRecDepth 100000 in
theorem eb_61 : ∃ oc cc, ee_bok 61 oc cc bd_61 := ee_bok_of (oc := 0) (cc := prog_1_method_9_code) rfl (by decide +kernel)
set_option maxRecDepth 100000 in
theorem eb_62 : ∃ oc cc, ee_bok 62 oc cc bd_62 := ee_bok_of (oc := 0) (cc := prog_1_method_10_code) rfl (by decide +kernel)
set_option maxRecDepth 100000 in
theorem eb_63 : ∃ oc cc, ee_bok 63 oc cc bd_63 := ee_bok_of (oc := 0) (cc := prog_1_method_11_code) rfl (by decide +kernel)
set_option maxRecDepth 100000 in
theorem eb_71 : ∃ oc cc, ee_bok 71 oc cc bd_71 := ee_bok_of (oc := 0) (cc := prog_1_method_12_code) rfl (by decide +kernel)
set_option maxRecDepth 100000 in
theorem eb_75 : ∃ oc cc, ee_bok 75 oc cc bd_75 := ee_bok_of (oc := 0) (cc := prog_1_method_13_code) rfl (by decide +kernel)
set_option maxRecDepth 100000 in
theorem eb_78 : ∃ oc cc, ee_bok 78 oc cc bd_78 := ee_bok_of (oc := 0) (cc := prog_1_method_14_code) rfl (by decide +kernel)
set_option maxRecDepth 100000 in
theorem eb_79 : ∃ oc cc, ee_bok 79 oc cc bd_79 := ee_bok_of (oc := 0) (cc := prog_1_method_15_code) rfl (by decide +kernel)
set_option maxRecDepth 100000 in
theorem eb_101 : ∃ oc cc, ee_bok 101 oc cc bd_101 := ee_bok_of (oc := 0) (cc := prog_1_method_16_code) rfl (by decide +kernel)
set_option maxRecDepth 100000 in
theorem eb_102 : ∃ oc cc, ee_bok 102 oc cc bd_102 := ee_bok_of (oc := 0) (cc := prog_1_method_17_code) rfl (by decide +kernel)
set_option maxRecDepth 100000 in
theorem eb_103 : ∃ oc cc, ee_bok 103 oc cc bd_103 := ee_bok_of (oc := 0) (cc := prog_1_method_18_code) rfl (by decide +kernel)
set_option maxRecDepth 100000 in
theorem eb_104 : ∃ oc cc, ee_bok 104 oc cc bd_104 := ee_bok_of (oc := 0) (cc := prog_1_method_19_code) rfl (by decide +kernel)
set_option maxRecDepth 100000 in
theorem eb_105 : ∃ oc cc, ee_bok 105 oc cc bd_105 := ee_bok_of (oc := 0) (cc := prog_1_method_20_code) rfl (by decide +kernel)
set_option maxRecDepth 100000 in
theorem eb_80 : ∃ oc cc, ee_bok 80 oc cc bd_80 := ee_bok_of (oc := 0) (cc := prog_1_method_21_code) rfl (by decide +kernel)
set_option maxRecDepth 100000 in
theorem eb_99 : ∃ oc cc, ee_bok 99 oc cc bd_99 := ee_bok_of (oc := 0) (cc := prog_1_method_22_code) rfl (by decide +kernel)
set_option maxRecDepth 100000 in
theorem eb_87 : ∃ oc cc, ee_bok 87 oc cc bd_87 := ee_bok_of (oc := 0) (cc := prog_1_method_23_code) rfl (by decide +kernel)
set_option maxRecDepth 100000 in
theorem eb_107 : ∃ oc cc, ee_bok 107 oc cc bd_107 := ee_bok_of (oc := 0) (cc := prog_1_method_24_code) rfl (by decide +kernel)
set_option maxRecDepth 100000 in
theorem eb_108 : ∃ oc cc, ee_bok 108 oc cc bd_108 := ee_bok_of (oc := 0) (cc := prog_1_method_25_code) rfl (by decide +kernel)
set_option maxRecDepth 100000 in
theorem eb_109 : ∃ oc cc, ee_bok 109 oc cc bd_109 := ee_bok_of (oc := 0) (cc := prog_1_method_26_code) rfl (by decide +kernel)
set_option maxRecDepth 100000 in
theorem eb_110 : ∃ oc cc, ee_bok 110 oc cc bd_110 := ee_bok_of (oc := 0) (cc := prog_1_method_27_code) rfl (by decide +kernel)
set_option maxRecDepth 100000 in
theorem eb_112 : ∃ oc cc, ee_bok 112 oc cc bd_112 := ee_bok_of (oc := 0) (cc := prog_1_method_28_code) rfl (by decide +kernel)
set_option maxRecDepth 100000 in
theorem eb_113 : ∃ oc cc, ee_bok 113 oc cc bd_113 := ee_bok_of (oc := 0) (cc := prog_1_method_29_code) rfl (by decide +kernel)
set_option maxRecDepth 100000 in
theorem eb_114 : ∃ oc cc, ee_bok 114 oc cc bd_114 := ee_bok_of (oc := 0) (cc := prog_1_method_30_code) rfl (by decide +kernel)
set_option maxRecDepth 100000 in
theorem eb_116 : ∃ oc cc, ee_bok 116 oc cc bd_116 := ee_bok_of (oc := 0) (cc := prog_1_method_31_code) rfl (by decide +kernel)
set_option maxRecDepth 100000 in
theorem eb_118 : ∃ oc cc, ee_bok 118 oc cc bd_118 := ee_bok_of (oc := 0) (cc := prog_1_method_32_code) rfl (by decide +kernel)
set_option maxRecDepth 100000 in
theorem eb_120 : ∃ oc cc, ee_bok 120 oc cc bd_120 := ee_bok_of (oc := 0) (cc := prog_1_method_33_code) rfl (by decide +kernel)
set_option maxRecDepth 100000 in
theorem eb_122 : ∃ oc cc, ee_bok 122 oc cc bd_122 := ee_bok_of (oc := 0) (cc := prog_1_method_34_code) rfl (by decide +kernel)
set_option maxRecDepth 100000 in
theorem eb_127 : ∃ oc cc, ee_bok 127 oc cc bd_127 := ee_bok_of (oc := 0) (cc := prog_1_method_35_code) rfl (by decide +kernel)
set_option maxRecDepth 100000 in
theorem eb_129 : ∃ oc cc, ee_bok 129 oc cc bd_129 := ee_bok_of (oc := 0) (cc := prog_1_method_36_code) rfl (by decide +kernel)
set_option maxRecDepth 100000 in
theorem eb_131 : ∃ oc cc, ee_bok 131 oc cc bd_131 := ee_bok_of (oc := 0) (cc := prog_1_method_37_code) rfl (by decide +kernel)
set_option maxRecDepth 100000 in
theorem eb_132 : ∃ oc cc, ee_bok 132 oc cc bd_132 := ee_bok_of (oc := 0) (cc := prog_1_method_38_code) rfl (by decide +kernel)
set_option maxRecDepth 100000 in
theorem eb_115 : ∃ oc cc, ee_bok 115 oc cc bd_115 := ee_bok_of (oc := 0) (cc := prog_1_method_39_code) rfl (by decide +kernel)
set_option maxRecDepth 100000 in
theorem eb_117 : ∃ oc cc, ee_bok 117 oc cc bd_117 := ee_bok_of (oc := 0) (cc := prog_1_method_40_code) rfl (by decide +kernel)
set_option maxRecDepth 100000 in
theorem eb_119 : ∃ oc cc, ee_bok 119 oc cc bd_119 := ee_bok_of (oc := 0) (cc := prog_1_method_41_code) rfl (by decide +kernel)
set_option maxRecDepth 100000 in
theorem eb_121 : ∃ oc cc, ee_bok 121 oc cc bd_121 := ee_bok_of (oc := 0) (cc := prog_1_method_42_code) rfl (by decide +kernel)
set_option maxRecDepth 100000 in
theorem eb_124 : ∃ oc cc, ee_bok 124 oc cc bd_124 := ee_bok_of (oc := 0) (cc := prog_1_method_43_code) rfl (by decide +kernel)
set_option maxRecDepth 100000 in
theorem eb_125 : ∃ oc cc, ee_bok 125 oc cc bd_125 := ee_bok_of (oc := 0) (cc := prog_1_method_44_code) rfl (by decide +kernel)
set_option maxRecDepth 100000 in
theorem eb_123 : ∃ oc cc, ee_bok 123 oc cc bd_123 := ee_bok_of (oc := 0) (cc := prog_1_method_45_code) rfl (by decide +kernel)
set_option maxRecDepth 100000 in
theorem eb_126 : ∃ oc cc, ee_bok 126 oc cc bd_126 := ee_bok_of (oc := 0) (cc := prog_1_method_46_code) rfl (by decide +kernel)
set_option maxRecDepth 100000 in
theorem eb_128 : ∃ oc cc, ee_bok 128 oc cc bd_128 := ee_bok_of (oc := 0) (cc := prog_1_method_47_code) rfl (by decide +kernel)
set_option maxRecDepth 100000 in
theorem eb_133 : ∃ oc cc, ee_bok 133 oc cc bd_133 := ee_bok_of (oc := 0) (cc := prog_1_method_48_code) rfl (by decide +kernel)
set_option maxRecDepth 100000 in
theorem eb_134 : ∃ oc cc, ee_bok 134 oc cc bd_134 := ee_bok_of (oc := 0) (cc := prog_1_method_49_code) rfl (by decide +kernel)
set_option maxRecDepth 100000 in
theorem eb_135 : ∃ oc cc, ee_bok 135 oc cc bd_135 := ee_bok_of (oc := 0) (cc := prog_1_method_50_code) rfl (by decide +kernel)
set_option maxRecDepth 100000 in
theorem eb_136 : ∃ oc cc, ee_bok 136 oc cc bd_136 := ee_bok_of (oc := 0) (cc := prog_1_method_51_code) rfl (by decide +kernel)
set_option maxRecDepth 100000 in
theorem eb_141 : ∃ oc cc, ee_bok 141 oc cc bd_141 := ee_bok_of (oc := 0) (cc := prog_1_method_52_code) rfl (by decide +kernel)
set_option maxRecDepth 100000 in
theorem eb_91 : ∃ oc cc, ee_bok 91 oc cc bd_91 := ee_bok_of (oc := 0) (cc := prog_1_method_53_code) rfl (by decide +kernel)
set_option maxRecDepth 100000 in
theorem eb_93 : ∃ oc cc, ee_bok 93 oc cc bd_93 := ee_bok_of (oc := 0) (cc := prog_1_method_54_code) rfl (by decide +kernel)
set_option maxRecDepth 100000 in
theorem eb_137 : ∃ oc cc, ee_bok 137 oc cc bd_137 := ee_bok_of (oc := 0) (cc := prog_1_method_55_code) rfl (by decide +kernel)
set_option maxRecDepth 100000 in
theorem eb_139 : ∃ oc cc, ee_bok 139 oc cc bd_139 := ee_bok_of (oc := 0) (cc := prog_1_method_56_code) rfl (by decide +kernel)
set_option maxRecDepth 100000 in
theorem eb_142 : ∃ oc cc, ee_bok 142 oc cc bd_142 := ee_bok_of (oc := 0) (cc := prog_1_method_57_code) rfl (by decide +kernel)
set_option maxRecDepth 100000 in
theorem eb_140 : ∃ oc cc, ee_bok 140 oc cc bd_140 := ee_bok_of (oc := 0) (cc := prog_1_method_58_code) rfl (by decide +kernel)
set_option maxRecDepth 100000 in
theorem eb_138 : ∃ oc cc, ee_bok 138 oc cc bd_138 := ee_bok_of (oc := 0) (cc := prog_1_method_59_code) rfl (by decide +kernel)
set_option maxRecDepth 100000 in
theorem eb_143 : ∃ oc cc, ee_bok 143 oc cc bd_143 := ee_bok_of (oc := 0) (cc := prog_1_method_60_code) rfl (by decide +kernel)
set_option maxRecDepth 100000 in
theorem eb_146 : ∃ oc cc, ee_bok 146 oc cc bd_146 := ee_bok_of (oc := 0) (cc := prog_1_method_61_code) rfl (by decide +kernel)
set_option maxRecDepth 100000 in
theorem eb_148 : ∃ oc cc, ee_bok 148 oc cc bd_148 := ee_bok_of (oc := 0) (cc := prog_1_method_62_code) rfl (by decide +kernel)
set_option maxRecDepth 100000 in
theorem eb_144 : ∃ oc cc, ee_bok 144 oc cc bd_144 := ee_bok_of (oc := 0) (cc := prog_1_method_63_code) rfl (by decide +kernel)
set_option maxRecDepth 100000 in
theorem eb_145 : ∃ oc cc, ee_bok 145 oc cc bd_145 := ee_bok_of (oc := 0) (cc := prog_1_method_64_code) rfl (by decide +kernel)
set_option maxRecDepth 100000 in
theorem eb_147 : ∃ oc cc, ee_bok 147 oc cc bd_147 := ee_bok_of (oc := 0) (cc := prog_1_method_65_code) rfl (by decide +kernel)
set_option maxRecDepth 100000 in
theorem eb_149 : ∃ oc cc, ee_bok 149 oc cc bd_149 := ee_bok_of (oc := 0) (cc := prog_1_method_66_code) rfl (by decide +kernel)
set_option maxRecDepth 100000 in
theorem eb_150 : ∃ oc cc, ee_bok 150 oc cc bd_150 := ee_bok_of (oc := 0) (cc := prog_1_method_67_code) rfl (by decide +kernel)
set_option maxRecDepth 100000 in
theorem eb_151 : ∃ oc cc, ee_bok 151 oc cc bd_151 := ee_bok_of (oc := 0) (cc := prog_1_method_68_code) rfl (by decide +kernel)
set_option maxRecDepth 100000 in
theorem eb_157 : ∃ oc cc, ee_bok 157 oc cc bd_157 := ee_bok_of (oc := 0) (cc := prog_1_method_69_code) rfl (by decide +kernel)
set_option maxRecDepth 100000 in
theorem eb_158 : ∃ oc cc, ee_bok 158 oc cc bd_158 := ee_bok_of (oc := 0) (cc := prog_1_method_70_code) rfl (by decide +kernel)
set_option maxRecDepth 100000 in
theorem eb_159 : ∃ oc cc, ee_bok 159 oc cc bd_159 := ee_bok_of (oc := 0) (cc := prog_1_method_71_code) rfl (by decide +kernel)
set_option maxRecDepth 100000 in
theorem eb_160 : ∃ oc cc, ee_bok 160 oc cc bd_160 := ee_bok_of (oc := 0) (cc := prog_1_method_72_code) rfl (by decide +kernel)
set_option maxRecDepth 100000 in
theorem eb_161 : ∃ oc cc, ee_bok 161 oc cc bd_161 := ee_bok_of (oc := 0) (cc := prog_1_method_73_code) rfl (by decide +kernel)
set_option maxRecDepth 100000 in
theorem eb_164 : ∃ oc cc, ee_bok 164 oc cc bd_164 := ee_bok_of (oc := 0) (cc := prog_1_method_74_code) rfl (by decide +kernel)
set_option maxRecDepth 100000 in
theorem eb_165 : ∃ oc cc, ee_bok 165 oc cc bd_165 := ee_bok_of (oc := 0) (cc := prog_1_method_75_code) rfl (by decide +kernel)
set_option maxRecDepth 100000 in
theorem eb_166 : ∃ oc cc, ee_bok 166 oc cc bd_166 := ee_bok_of (oc := 0) (cc := prog_1_method_76_code) rfl (by decide +kernel)
set_option maxRecDepth 100000 in
theorem eb_167 : ∃ oc cc, ee_bok 167 oc cc bd_167 := ee_bok_of (oc := 0) (cc := prog_1_method_77_code) rfl (by decide +kernel)
set_option maxRecDepth 100000 in
theorem eb_168 : ∃ oc cc, ee_bok 168 oc cc bd_168 := ee_bok_of (oc := 0) (cc := prog_1_method_78_code) rfl (by decide +kernel)
set_option maxRecDepth 100000 in
theorem eb_169 : ∃ oc cc, ee_bok 169 oc cc bd_169 := ee_bok_of (oc := 0) (cc := prog_1_method_79_code) rfl (by decide +kernel)
set_option maxRecDepth 100000 in
theorem eb_170 : ∃ oc cc, ee_bok 170 oc cc bd_170 := ee_bok_of (oc := 0) (cc := prog_1_method_80_code) rfl (by decide +kernel)
set_option maxRecDepth 100000 in
theorem eb_171 : ∃ oc cc, ee_bok 171 oc cc bd_171 := ee_bok_of (oc := 0) (cc := prog_1_method_81_code) rfl (by decide +kernel)
set_option maxRecDepth 100000 in
theorem eb_172 : ∃ oc cc, ee_bok 172 oc cc bd_172 := ee_bok_of (oc := 0) (cc := prog_1_method_82_code) rfl (by decide +kernel)
set_option maxRecDepth 100000 in
theorem eb_162 : ∃ oc cc, ee_bok 162 oc cc bd_162 := ee_bok_of (oc := 0) (cc := prog_1_method_83_code) rfl (by decide +kernel)
set_option maxRecDepth 100000 in
theorem eb_82 : ∃ oc cc, ee_bok 82 oc cc bd_82 := ee_bok_of (oc := 0) (cc := prog_1_method_84_code) rfl (by decide +kernel)
set_option maxRecDepth 100000 in
theorem eb_84 : ∃ oc cc, ee_bok 84 oc cc bd_84 := ee_bok_of (oc := 0) (cc := prog_1_method_85_code) rfl (by decide +kernel)
set_option maxRecDepth 100000 in
theorem eb_163 : ∃ oc cc, ee_bok 163 oc cc bd_163 := ee_bok_of (oc := 0) (cc := prog_1_method_86_code) rfl (by decide +kernel)
set_option maxRecDepth 100000 in
theorem eb_173 : ∃ oc cc, ee_bok 173 oc cc bd_173 := ee_bok_of (oc := 0) (cc := prog_1_method_87_code) rfl (by decide +kernel)
set_option maxRecDepth 100000 in
theorem eb_174 : ∃ oc cc, ee_bok 174 oc cc bd_174 := ee_bok_of (oc := 0) (cc := prog_1_method_88_code) rfl (by decide +kernel)
set_option maxRecDepth 100000 in
theorem eb_175 : ∃ oc cc, ee_bok 175 oc cc bd_175 := ee_bok_of (oc := 0) (cc := prog_1_method_89_code) rfl (by decide +kernel)
set_option maxRecDepth 100000 in
theorem eb_176 : ∃ oc cc, ee_bok 176 oc cc bd_176 := ee_bok_of (oc := 0) (cc := prog_1_method_90_code) rfl (by decide +kernel)
set_option maxRecDepth 100000 in
theorem eb_178 : ∃ oc cc, ee_bok 178 oc cc bd_178 := ee_bok_of (oc := 0) (cc := prog_1_method_91_code) rfl (by decide +kernel)
set_option maxRecDepth 100000 in
theorem eb_179 : ∃ oc cc, ee_bok 179 oc cc bd_179 := ee_bok_of (oc := 0) (cc := prog_1_method_92_code) rfl (by decide +kernel)
set_option maxRecDepth 100000 in
theorem eb_182 : ∃ oc cc, ee_bok 182 oc cc bd_182 := ee_bok_of (oc := 0) (cc := prog_1_method_93_code) rfl (by decide +kernel)
set_option maxRecDepth 100000 in
theorem eb_183 : ∃ oc cc, ee_bok 183 oc cc bd_183 := ee_bok_of (oc := 0) (cc := prog_1_method_94_code) rfl (by decide +kernel)
set_option maxRecDepth 100000 in
theorem eb_10 : ∃ oc cc, ee_bok 10 oc cc bd_10 := ee_bok_of (oc := 0) (cc := prog_1_method_95_code) rfl (by decide +kernel)
set_option maxRecDepth 100000 in
theorem eb_64 : ∃ oc cc, ee_bok 64 oc cc bd_64 := ee_bok_of (oc := 0) (cc := prog_1_method_96_code) rfl (by decide +kernel)
set_option maxRecDepth 100000 in
theorem eb_85 : ∃ oc cc, ee_bok 85 oc cc bd_85 := ee_bok_of (oc := 0) (cc := prog_1_method_97_code) rfl (by decide +kernel)
set_option maxRecDepth 100000 in
theorem eb_73 : ∃ oc cc, ee_bok 73 oc cc bd_73 := ee_bok_of (oc := 0) (cc := prog_1_method_98_code) rfl (by decide +kernel)
set_option maxRecDepth 100000 in
theorem eb_68 : ∃ oc cc, ee_bok 68 oc cc bd_68 := ee_bok_of (oc := 2) (cc := prog_3_method_2_code) rfl (by decide +kernel)
set_option maxRecDepth 100000 in
theorem eb_81 : ∃ oc cc, ee_bok 81 oc cc bd_81 := ee_bok_of (oc := 2) (cc := prog_3_method_3_code) rfl (by decide +kernel)
set_option maxRecDepth 100000 in
theorem eb_83 : ∃ oc cc, ee_bok 83 oc cc bd_83 := ee_bok_of (oc := 2) (cc := prog_3_method_4_code) rfl (by decide +kernel)
set_option maxRecDepth 100000 in
theorem eb_86 : ∃ oc cc, ee_bok 86 oc cc bd_86 := ee_bok_of (oc := 2) (cc := prog_3_method_5_code) rfl (by decide +kernel)
set_option maxRecDepth 100000 in
theorem eb_98 : ∃ oc cc, ee_bok 98 oc cc bd_98 := ee_bok_of (oc := 2) (cc := prog_3_method_6_code) rfl (by decide +kernel)
set_option maxRecDepth 100000 in
theorem eb_69 : ∃ oc cc, ee_bok 69 oc cc bd_69 := ee_bok_of (oc := 2) (cc := prog_3_method_7_code) rfl (by decide +kernel)
set_option maxRecDepth 100000 in
theorem eb_72 : ∃ oc cc, ee_bok 72 oc cc bd_72 := ee_bok_of (oc := 2) (cc := prog_3_method_8_code) rfl (by decide +kernel)
set_option maxRecDepth 100000 in
theorem eb_76 : ∃ oc cc, ee_bok 76 oc cc bd_76 := ee_bok_of (oc := 2) (cc := prog_3_method_9_code) rfl (by decide +kernel)
set_option maxRecDepth 100000 in
theorem eb_77 : ∃ oc cc, ee_bok 77 oc cc bd_77 := ee_bok_of (oc := 2) (cc := prog_3_method_10_code) rfl (by decide +kernel)
set_option maxRecDepth 100000 in
theorem eb_100 : ∃ oc cc, ee_bok 100 oc cc bd_100 := ee_bok_of (oc := 2) (cc := prog_3_method_11_code) rfl (by decide +kernel)
set_option maxRecDepth 100000 in
theorem eb_70 : ∃ oc cc, ee_bok 70 oc cc bd_70 := ee_bok_of (oc := 2) (cc := prog_3_method_12_code) rfl (by decide +kernel)
set_option maxRecDepth 100000 in
theorem eb_111 : ∃ oc cc, ee_bok 111 oc cc bd_111 := ee_bok_of (oc := 2) (cc := prog_3_method_13_code) rfl (by decide +kernel)
set_option maxRecDepth 100000 in
theorem eb_177 : ∃ oc cc, ee_bok 177 oc cc bd_177 := ee_bok_of (oc := 2) (cc := prog_3_method_14_code) rfl (by decide +kernel)
set_option maxRecDepth 100000 in
theorem eb_66 : ∃ oc cc, ee_bok 66 oc cc bd_66 := ee_bok_of (oc := 6) (cc := prog_7_method_2_code) rfl (by decide +kernel)
set_option maxRecDepth 100000 in
theorem eb_65 : ∃ oc cc, ee_bok 65 oc cc bd_65 := ee_bok_of (oc := 6) (cc := prog_7_method_3_code) rfl (by decide +kernel)
set_option maxRecDepth 100000 in
theorem eb_106 : ∃ oc cc, ee_bok 106 oc cc bd_106 := ee_bok_of (oc := 6) (cc := prog_7_method_4_code) rfl (by decide +kernel)
set_option maxRecDepth 100000 in
theorem eb_181 : ∃ oc cc, ee_bok 181 oc cc bd_181 := ee_bok_of (oc := 6) (cc := prog_7_method_5_code) rfl (by decide +kernel)
set_option maxRecDepth 100000 in
theorem eb_180 : ∃ oc cc, ee_bok 180 oc cc bd_180 := ee_bok_of (oc := 1) (cc := prog_2_method_2_code) rfl (by decide +kernel)
set_option maxRecDepth 100000 in
theorem eb_17 : ∃ oc cc, ee_bok 17 oc cc bd_17 := ee_bok_of (oc := 7) (cc := prog_8_method_2_code) rfl (by decide +kernel)
set_option maxRecDepth 100000 in
theorem eb_43 : ∃ oc cc, ee_bok 43 oc cc bd_43 := ee_bok_of (oc := 7) (cc := prog_8_method_3_code) rfl (by decide +kernel)
set_option maxRecDepth 100000 in
theorem eb_49 : ∃ oc cc, ee_bok 49 oc cc bd_49 := ee_bok_of (oc := 7) (cc := prog_8_method_4_code) rfl (by decide +kernel)
set_option maxRecDepth 100000 in
theorem eb_56 : ∃ oc cc, ee_bok 56 oc cc bd_56 := ee_bok_of (oc := 7) (cc := prog_8_method_5_code) rfl (by decide +kernel)
set_option maxRecDepth 100000 in
theorem eb_16 : ∃ oc cc, ee_bok 16 oc cc bd_16 := ee_bok_of (oc := 4) (cc := prog_5_method_2_code) rfl (by decide +kernel)
set_option maxRecDepth 100000 in
theorem eb_19 : ∃ oc cc, ee_bok 19 oc cc bd_19 := ee_bok_of (oc := 4) (cc := prog_5_method_3_code) rfl (by decide +kernel)
set_option maxRecDepth 100000 in
theorem eb_34 : ∃ oc cc, ee_bok 34 oc cc bd_34 := ee_bok_of (oc := 4) (cc := prog_5_method_4_code) rfl (by decide +kernel)
set_option maxRecDepth 100000 in
theorem eb_21 : ∃ oc cc, ee_bok 21 oc cc bd_21 := ee_bok_of (oc := 4) (cc := prog_5_method_5_code) rfl (by decide +kernel)
set_option maxRecDepth 100000 in
theorem eb_22 : ∃ oc cc, ee_bok 22 oc cc bd_22 := ee_bok_of (oc := 4) (cc := prog_5_method_6_code) rfl (by decide +kernel)
set_option maxRecDepth 100000 in
theorem eb_36 : ∃ oc cc, ee_bok 36 oc cc bd_36 := ee_bok_of (oc := 4) (cc := prog_5_method_7_code) rfl (by decide +kernel)
set_option maxRecDepth 100000 in
theorem eb_37 : ∃ oc cc, ee_bok 37 oc cc bd_37 := ee_bok_of (oc := 4) (cc := prog_5_method_8_code) rfl (by decide +kernel)
set_option maxRecDepth 100000 in
theorem eb_38 : ∃ oc cc, ee_bok 38 oc cc bd_38 := ee_bok_of (oc := 4) (cc := prog_5_method_9_code) rfl (by decide +kernel)
set_option maxRecDepth 100000 in
theorem eb_20 : ∃ oc cc, ee_bok 20 oc cc bd_20 := ee_bok_of (oc := 4) (cc := prog_5_method_10_code) rfl (by decide +kernel)
set_option maxRecDepth 100000 in
theorem eb_35 : ∃ oc cc, ee_bok 35 oc cc bd_35 := ee_bok_of (oc := 4) (cc := prog_5_method_11_code) rfl (by decide +kernel)
set_option maxRecDepth 100000 in
theorem eb_39 : ∃ oc cc, ee_bok 39 oc cc bd_39 := ee_bok_of (oc := 4) (cc := prog_5_method_12_code) rfl (by decide +kernel)
set_option maxRecDepth 100000 in
theorem eb_47 : ∃ oc cc, ee_bok 47 oc cc bd_47 := ee_bok_of (oc := 4) (cc := prog_5_method_13_code) rfl (by decide +kernel)
set_option maxRecDepth 100000 in
theorem eb_41 : ∃ oc cc, ee_bok 41 oc cc bd_41 := ee_bok_of (oc := 4) (cc := prog_5_method_14_code) rfl (by decide +kernel)
set_option maxRecDepth 100000 in
theorem eb_51 : ∃ oc cc, ee_bok 51 oc cc bd_51 := ee_bok_of (oc := 4) (cc := prog_5_method_15_code) rfl (by decide +kernel)
set_option maxRecDepth 100000 in
theorem eb_40 : ∃ oc cc, ee_bok 40 oc cc bd_40 := ee_bok_of (oc := 4) (cc := prog_5_method_16_code) rfl (by decide +kernel)
set_option maxRecDepth 100000 in
theorem eb_42 : ∃ oc cc, ee_bok 42 oc cc bd_42 := ee_bok_of (oc := 4) (cc := prog_5_method_17_code) rfl (by decide +kernel)
set_option maxRecDepth 100000 in
theorem eb_58 : ∃ oc cc, ee_bok 58 oc cc bd_58 := ee_bok_of (oc := 4) (cc := prog_5_method_18_code) rfl (by decide +kernel)
set_option maxRecDepth 100000 in
theorem eb_59 : ∃ oc cc, ee_bok 59 oc cc bd_59 := ee_bok_of (oc := 4) (cc := prog_5_method_19_code) rfl (by decide +kernel)
set_option maxRecDepth 100000 in
theorem eb_48 : ∃ oc cc, ee_bok 48 oc cc bd_48 := ee_bok_of (oc := 4) (cc := prog_5_method_20_code) rfl (by decide +kernel)
set_option maxRecDepth 100000 in
theorem eb_44 : ∃ oc cc, ee_bok 44 oc cc bd_44 := ee_bok_of (oc := 4) (cc := prog_5_method_21_code) rfl (by decide +kernel)
set_option maxRecDepth 100000 in
theorem eb_45 : ∃ oc cc, ee_bok 45 oc cc bd_45 := ee_bok_of (oc := 4) (cc := prog_5_method_22_code) rfl (by decide +kernel)
set_option maxRecDepth 100000 in
theorem eb_46 : ∃ oc cc, ee_bok 46 oc cc bd_46 := ee_bok_of (oc := 4) (cc := prog_5_method_23_code) rfl (by decide +kernel)
set_option maxRecDepth 100000 in
theorem eb_50 : ∃ oc cc, ee_bok 50 oc cc bd_50 := ee_bok_of (oc := 4) (cc := prog_5_method_24_code) rfl (by decide +kernel)
set_option maxRecDepth 100000 in
theorem eb_57 : ∃ oc cc, ee_bok 57 oc cc bd_57 := ee_bok_of (oc := 4) (cc := prog_5_method_25_code) rfl (by decide +kernel)
set_option maxRecDepth 100000 in
theorem eb_52 : ∃ oc cc, ee_bok 52 oc cc bd_52 := ee_bok_of (oc := 4) (cc := prog_5_method_26_code) rfl (by decide +kernel)
set_option maxRecDepth 100000 in
theorem eb_53 : ∃ oc cc, ee_bok 53 oc cc bd_53 := ee_bok_of (oc := 4) (cc := prog_5_method_27_code) rfl (by decide +kernel)
set_option maxRecDepth 100000 in
theorem eb_54 : ∃ oc cc, ee_bok 54 oc cc bd_54 := ee_bok_of (oc := 4) (cc := prog_5_method_28_code) rfl (by decide +kernel)
set_option maxRecDepth 100000 in
theorem eb_55 : ∃ oc cc, ee_bok 55 oc cc bd_55 := ee_bok_of (oc := 4) (cc := prog_5_method_29_code) rfl (by decide +kernel)
set_option maxRecDepth 100000 in
theorem eb_88 : ∃ oc cc, ee_bok 88 oc cc bd_88 := ee_bok_of (oc := 3) (cc := prog_4_method_2_code) rfl (by decide +kernel)
set_option maxRecDepth 100000 in
theorem eb_89 : ∃ oc cc, ee_bok 89 oc cc bd_89 := ee_bok_of (oc := 3) (cc := prog_4_method_3_code) rfl (by decide +kernel)
set_option maxRecDepth 100000 in
theorem eb_90 : ∃ oc cc, ee_bok 90 oc cc bd_90 := ee_bok_of (oc := 3) (cc := prog_4_method_4_code) rfl (by decide +kernel)
set_option maxRecDepth 100000 in
theorem eb_94 : ∃ oc cc, ee_bok 94 oc cc bd_94 := ee_bok_of (oc := 3) (cc := prog_4_method_5_code) rfl (by decide +kernel)
set_option maxRecDepth 100000 in
theorem eb_95 : ∃ oc cc, ee_bok 95 oc cc bd_95 := ee_bok_of (oc := 3) (cc := prog_4_method_6_code) rfl (by decide +kernel)
set_option maxRecDepth 100000 in
theorem eb_152 : ∃ oc cc, ee_bok 152 oc cc bd_152 := ee_bok_of (oc := 5) (cc := prog_6_method_2_code) rfl (by decide +kernel)
set_option maxRecDepth 100000 in
theorem eb_156 : ∃ oc cc, ee_bok 156 oc cc bd_156 := ee_bok_of (oc := 5) (cc := prog_6_method_3_code) rfl (by decide +kernel)
set_option maxRecDepth 100000 in
theorem eb_153 : ∃ oc cc, ee_bok 153 oc cc bd_153 := ee_bok_of (oc := 5) (cc := prog_6_method_4_code) rfl (by decide +kernel)
set_option maxRecDepth 100000 in
theorem eb_155 : ∃ oc cc, ee_bok 155 oc cc bd_155 := ee_bok_of (oc := 5) (cc := prog_6_method_5_code) rfl (by decide +kernel)
set_option maxRecDepth 100000 in
theorem eb_154 : ∃ oc cc, ee_bok 154 oc cc bd_154 := ee_bok_of (oc := 5) (cc := prog_6_method_6_code) rfl (by decide +kernel)
set_option maxRecDepth 100000 in
theorem eb_185 : ∃ oc cc, ee_bok 185 oc cc bd_185 := ee_bok_of (oc := 8) (cc := prog_10_method_2_code) rfl (by decide +kernel)
set_option maxRecDepth 100000 in
theorem eb_188 : ∃ oc cc, ee_bok 188 oc cc bd_188 := ee_bok_of (oc := 8) (cc := prog_10_method_3_code) rfl (by decide +kernel)
set_option maxRecDepth 100000 in
theorem eb_241 : ∃ oc cc, ee_bok 241 oc cc bd_241 := ee_bok_of (oc := 8) (cc := prog_10_method_4_code) rfl (by decide +kernel)
set_option maxRecDepth 100000 in
theorem eb_208 : ∃ oc cc, ee_bok 208 oc cc bd_208 := ee_bok_of (oc := 8) (cc := prog_10_method_5_code) rfl (by decide +kernel)
set_option maxRecDepth 100000 in
theorem eb_291 : ∃ oc cc, ee_bok 291 oc cc bd_291 := ee_bok_of (oc := 8) (cc := prog_10_method_6_code) rfl (by decide +kernel)
set_option maxRecDepth 100000 in
theorem eb_187 : ∃ oc cc, ee_bok 187 oc cc bd_187 := ee_bok_of (oc := 8) (cc := prog_10_method_7_code) rfl (by decide +kernel)
set_option maxRecDepth 100000 in
theorem eb_235 : ∃ oc cc, ee_bok 235 oc cc bd_235 := ee_bok_of (oc := 8) (cc := prog_10_method_8_code) rfl (by decide +kernel)
set_option maxRecDepth 100000 in
theorem eb_248 : ∃ oc cc, ee_bok 248 oc cc bd_248 := ee_bok_of (oc := 8) (cc := prog_10_method_9_code) rfl (by decide +kernel)
set_option maxRecDepth 100000 in
theorem eb_186 : ∃ oc cc, ee_bok 186 oc cc bd_186 := ee_bok_of (oc := 8) (cc := prog_10_method_10_code) rfl (by decide +kernel)
set_option maxRecDepth 100000 in
theorem eb_189 : ∃ oc cc, ee_bok 189 oc cc bd_189 := ee_bok_of (oc := 8) (cc := prog_10_method_11_code) rfl (by decide +kernel)
set_option maxRecDepth 100000 in
theorem eb_259 : ∃ oc cc, ee_bok 259 oc cc bd_259 := ee_bok_of (oc := 8) (cc := prog_10_method_12_code) rfl (by decide +kernel)
set_option maxRecDepth 100000 in
theorem eb_258 : ∃ oc cc, ee_bok 258 oc cc bd_258 := ee_bok_of (oc := 8) (cc := prog_10_method_13_code) rfl (by decide +kernel)
set_option maxRecDepth 100000 in
theorem eb_257 : ∃ oc cc, ee_bok 257 oc cc bd_257 := ee_bok_of (oc := 8) (cc := prog_10_method_14_code) rfl (by decide +kernel)
set_option maxRecDepth 100000 in
theorem eb_191 : ∃ oc cc, ee_bok 191 oc cc bd_191 := ee_bok_of (oc := 8) (cc := prog_10_method_15_code) rfl (by decide +kernel)
set_option maxRecDepth 100000 in
theorem eb_190 : ∃ oc cc, ee_bok 190 oc cc bd_190 := ee_bok_of (oc := 8) (cc := prog_10_method_16_code) rfl (by decide +kernel)
set_option maxRecDepth 100000 in
theorem eb_192 : ∃ oc cc, ee_bok 192 oc cc bd_192 := ee_bok_of (oc := 8) (cc := prog_10_method_17_code) rfl (by decide +kernel)
set_option maxRecDepth 100000 in
theorem eb_196 : ∃ oc cc, ee_bok 196 oc cc bd_196 := ee_bok_of (oc := 8) (cc := prog_10_method_18_code) rfl (by decide +kernel)
set_option maxRecDepth 100000 in
theorem eb_198 : ∃ oc cc, ee_bok 198 oc cc bd_198 := ee_bok_of (oc := 8) (cc := prog_10_method_19_code) rfl (by decide +kernel)
set_option maxRecDepth 100000 in
theorem eb_197 : ∃ oc cc, ee_bok 197 oc cc bd_197 := ee_bok_of (oc := 8) (cc := prog_10_method_20_code) rfl (by decide +kernel)
set_option maxRecDepth 100000 in
theorem eb_199 : ∃ oc cc, ee_bok 199 oc cc bd_199 := ee_bok_of (oc := 8) (cc := prog_10_method_21_code) rfl (by decide +kernel)
set_option maxRecDepth 100000 in
theorem eb_195 : ∃ oc cc, ee_bok 195 oc cc bd_195 := ee_bok_of (oc := 8) (cc := prog_10_method_22_code) rfl (by decide +kernel)
set_option maxRecDepth 100000 in
theorem eb_205 : ∃ oc cc, ee_bok 205 oc cc bd_205 := ee_bok_of (oc := 8) (cc := prog_10_method_23_code) rfl (by decide +kernel)
set_option maxRecDepth 100000 in
theorem eb_204 : ∃ oc cc, ee_bok 204 oc cc bd_204 := ee_bok_of (oc := 8) (cc := prog_10_method_24_code) rfl (by decide +kernel)
set_option maxRecDepth 100000 in
theorem eb_203 : ∃ oc cc, ee_bok 203 oc cc bd_203 := ee_bok_of (oc := 8) (cc := prog_10_method_25_code) rfl (by decide +kernel)
set_option maxRecDepth 100000 in
theorem eb_202 : ∃ oc cc, ee_bok 202 oc cc bd_202 := ee_bok_of (oc := 8) (cc := prog_10_method_26_code) rfl (by decide +kernel)
set_option maxRecDepth 100000 in
theorem eb_207 : ∃ oc cc, ee_bok 207 oc cc bd_207 := ee_bok_of (oc := 8) (cc := prog_10_method_27_code) rfl (by decide +kernel)
set_option maxRecDepth 100000 in
theorem eb_206 : ∃ oc cc, ee_bok 206 oc cc bd_206 := ee_bok_of (oc := 8) (cc := prog_10_method_28_code) rfl (by decide +kernel)
set_option maxRecDepth 100000 in
theorem eb_222 : ∃ oc cc, ee_bok 222 oc cc bd_222 := ee_bok_of (oc := 8) (cc := prog_10_method_29_code) rfl (by decide +kernel)
set_option maxRecDepth 100000 in
theorem eb_226 : ∃ oc cc, ee_bok 226 oc cc bd_226 := ee_bok_of (oc := 8) (cc := prog_10_method_30_code) rfl (by decide +kernel)
set_option maxRecDepth 100000 in
theorem eb_225 : ∃ oc cc, ee_bok 225 oc cc bd_225 := ee_bok_of (oc := 8) (cc := prog_10_method_31_code) rfl (by decide +kernel)
set_option maxRecDepth 100000 in
theorem eb_227 : ∃ oc cc, ee_bok 227 oc cc bd_227 := ee_bok_of (oc := 8) (cc := prog_10_method_32_code) rfl (by decide +kernel)
set_option maxRecDepth 100000 in
theorem eb_219 : ∃ oc cc, ee_bok 219 oc cc bd_219 := ee_bok_of (oc := 8) (cc := prog_10_method_33_code) rfl (by decide +kernel)
set_option maxRecDepth 100000 in
theorem eb_221 : ∃ oc cc, ee_bok 221 oc cc bd_221 := ee_bok_of (oc := 8) (cc := prog_10_method_34_code) rfl (by decide +kernel)
set_option maxRecDepth 100000 in
theorem eb_217 : ∃ oc cc, ee_bok 217 oc cc bd_217 := ee_bok_of (oc := 8) (cc := prog_10_method_35_code) rfl (by decide +kernel)
set_option maxRecDepth 100000 in
theorem eb_216 : ∃ oc cc, ee_bok 216 oc cc bd_216 := ee_bok_of (oc := 8) (cc := prog_10_method_36_code) rfl (by decide +kernel)
set_option maxRecDepth 100000 in
theorem eb_218 : ∃ oc cc, ee_bok 218 oc cc bd_218 := ee_bok_of (oc := 8) (cc := prog_10_method_37_code) rfl (by decide +kernel)
set_option maxRecDepth 100000 in
theorem eb_229 : ∃ oc cc, ee_bok 229 oc cc bd_229 := ee_bok_of (oc := 8) (cc := prog_10_method_38_code) rfl (by decide +kernel)
set_option maxRecDepth 100000 in
theorem eb_228 : ∃ oc cc, ee_bok 228 oc cc bd_228 := ee_bok_of (oc := 8) (cc := prog_10_method_39_code) rfl (by decide +kernel)
set_option maxRecDepth 100000 in
theorem eb_224 : ∃ oc cc, ee_bok 224 oc cc bd_224 := ee_bok_of (oc := 8) (cc := prog_10_method_40_code) rfl (by decide +kernel)
set_option maxRecDepth 100000 in
theorem eb_220 : ∃ oc cc, ee_bok 220 oc cc bd_220 := ee_bok_of (oc := 8) (cc := prog_10_method_41_code) rfl (by decide +kernel)
set_option maxRecDepth 100000 in
theorem eb_215 : ∃ oc cc, ee_bok 215 oc cc bd_215 := ee_bok_of (oc := 8) (cc := prog_10_method_42_code) rfl (by decide +kernel)
set_option maxRecDepth 100000 in
theorem eb_223 : ∃ oc cc, ee_bok 223 oc cc bd_223 := ee_bok_of (oc := 8) (cc := prog_10_method_43_code) rfl (by decide +kernel)
set_option maxRecDepth 100000 in
theorem eb_214 : ∃ oc cc, ee_bok 214 oc cc bd_214 := ee_bok_of (oc := 8) (cc := prog_10_method_44_code) rfl (by decide +kernel)
set_option maxRecDepth 100000 in
theorem eb_213 : ∃ oc cc, ee_bok 213 oc cc bd_213 := ee_bok_of (oc := 8) (cc := prog_10_method_45_code) rfl (by decide +kernel)
set_option maxRecDepth 100000 in
theorem eb_211 : ∃ oc cc, ee_bok 211 oc cc bd_211 := ee_bok_of (oc := 8) (cc := prog_10_method_46_code) rfl (by decide +kernel)
set_option maxRecDepth 100000 in
theorem eb_212 : ∃ oc cc, ee_bok 212 oc cc bd_212 := ee_bok_of (oc := 8) (cc := prog_10_method_47_code) rfl (by decide +kernel)
set_option maxRecDepth 100000 in
theorem eb_210 : ∃ oc cc, ee_bok 210 oc cc bd_210 := ee_bok_of (oc := 8) (cc := prog_10_method_48_code) rfl (by decide +kernel)
set_option maxRecDepth 100000 in
theorem eb_209 : ∃ oc cc, ee_bok 209 oc cc bd_209 := ee_bok_of (oc := 8) (cc := prog_10_method_49_code) rfl (by decide +kernel)
set_option maxRecDepth 100000 in
theorem eb_201 : ∃ oc cc, ee_bok 201 oc cc bd_201 := ee_bok_of (oc := 8) (cc := prog_10_method_50_code) rfl (by decide +kernel)
set_option maxRecDepth 100000 in
theorem eb_200 : ∃ oc cc, ee_bok 200 oc cc bd_200 := ee_bok_of (oc := 8) (cc := prog_10_method_51_code) rfl (by decide +kernel)
set_option maxRecDepth 100000 in
theorem eb_194 : ∃ oc cc, ee_bok 194 oc cc bd_194 := ee_bok_of (oc := 8) (cc := prog_10_method_52_code) rfl (by decide +kernel)
set_option maxRecDepth 100000 in
theorem eb_193 : ∃ oc cc, ee_bok 193 oc cc bd_193 := ee_bok_of (oc := 8) (cc := prog_10_method_53_code) rfl (by decide +kernel)
set_option maxRecDepth 100000 in
theorem eb_230 : ∃ oc cc, ee_bok 230 oc cc bd_230 := ee_bok_of (oc := 8) (cc := prog_10_method_54_code) rfl (by decide +kernel)
set_option maxRecDepth 100000 in
theorem eb_231 : ∃ oc cc, ee_bok 231 oc cc bd_231 := ee_bok_of (oc := 8) (cc := prog_10_method_55_code) rfl (by decide +kernel)
set_option maxRecDepth 100000 in
theorem eb_261 : ∃ oc cc, ee_bok 261 oc cc bd_261 := ee_bok_of (oc := 8) (cc := prog_10_method_56_code) rfl (by decide +kernel)
set_option maxRecDepth 100000 in
theorem eb_260 : ∃ oc cc, ee_bok 260 oc cc bd_260 := ee_bok_of (oc := 8) (cc := prog_10_method_57_code) rfl (by decide +kernel)
set_option maxRecDepth 100000 in
theorem eb_262 : ∃ oc cc, ee_bok 262 oc cc bd_262 := ee_bok_of (oc := 8) (cc := prog_10_method_58_code) rfl (by decide +kernel)
set_option maxRecDepth 100000 in
theorem eb_256 : ∃ oc cc, ee_bok 256 oc cc bd_256 := ee_bok_of (oc := 8) (cc := prog_10_method_59_code) rfl (by decide +kernel)
set_option maxRecDepth 100000 in
theorem eb_263 : ∃ oc cc, ee_bok 263 oc cc bd_263 := ee_bok_of (oc := 8) (cc := prog_10_method_60_code) rfl (by decide +kernel)
set_option maxRecDepth 100000 in
theorem eb_255 : ∃ oc cc, ee_bok 255 oc cc bd_255 := ee_bok_of (oc := 8) (cc := prog_10_method_61_code) rfl (by decide +kernel)
set_option maxRecDepth 100000 in
theorem eb_254 : ∃ oc cc, ee_bok 254 oc cc bd_254 := ee_bok_of (oc := 8) (cc := prog_10_method_62_code) rfl (by decide +kernel)
set_option maxRecDepth 100000 in
theorem eb_253 : ∃ oc cc, ee_bok 253 oc cc bd_253 := ee_bok_of (oc := 8) (cc := prog_10_method_63_code) rfl (by decide +kernel)
set_option maxRecDepth 100000 in
theorem eb_265 : ∃ oc cc, ee_bok 265 oc cc bd_265 := ee_bok_of (oc := 8) (cc := prog_10_method_64_code) rfl (by decide +kernel)
set_option maxRecDepth 100000 in
theorem eb_252 : ∃ oc cc, ee_bok 252 oc cc bd_252 := ee_bok_of (oc := 8) (cc := prog_10_method_65_code) rfl (by decide +kernel)
set_option maxRecDepth 100000 in
theorem eb_238 : ∃ oc cc, ee_bok 238 oc cc bd_238 := ee_bok_of (oc := 8) (cc := prog_10_method_66_code) rfl (by decide +kernel)
set_option maxRecDepth 100000 in
theorem eb_250 : ∃ oc cc, ee_bok 250 oc cc bd_250 := ee_bok_of (oc := 8) (cc := prog_10_method_67_code) rfl (by decide +kernel)
set_option maxRecDepth 100000 in
theorem eb_251 : ∃ oc cc, ee_bok 251 oc cc bd_251 := ee_bok_of (oc := 8) (cc := prog_10_method_68_code) rfl (by decide +kernel)
set_option maxRecDepth 100000 in
theorem eb_249 : ∃ oc cc, ee_bok 249 oc cc bd_249 := ee_bok_of (oc := 8) (cc := prog_10_method_69_code) rfl (by decide +kernel)
set_option maxRecDepth 100000 in
theorem eb_264 : ∃ oc cc, ee_bok 264 oc cc bd_264 := ee_bok_of (oc := 8) (cc := prog_10_method_70_code) rfl (by decide +kernel)
set_option maxRecDepth 100000 in
theorem eb_247 : ∃ oc cc, ee_bok 247 oc cc bd_247 := ee_bok_of (oc := 8) (cc := prog_10_method_71_code) rfl (by decide +kernel)
set_option maxRecDepth 100000 in
theorem eb_234 : ∃ oc cc, ee_bok 234 oc cc bd_234 := ee_bok_of (oc := 8) (cc := prog_10_method_72_code) rfl (by decide +kernel)
set_option maxRecDepth 100000 in
theorem eb_237 : ∃ oc cc, ee_bok 237 oc cc bd_237 := ee_bok_of (oc := 8) (cc := prog_10_method_73_code) rfl (by decide +kernel)
set_option maxRecDepth 100000 in
theorem eb_240 : ∃ oc cc, ee_bok 240 oc cc bd_240 := ee_bok_of (oc := 8) (cc := prog_10_method_74_code) rfl (by decide +kernel)
set_option maxRecDepth 100000 in
theorem eb_243 : ∃ oc cc, ee_bok 243 oc cc bd_243 := ee_bok_of (oc := 8) (cc := prog_10_method_75_code) rfl (by decide +kernel)
set_option maxRecDepth 100000 in
theorem eb_244 : ∃ oc cc, ee_bok 244 oc cc bd_244 := ee_bok_of (oc := 8) (cc := prog_10_method_76_code) rfl (by decide +kernel)
set_option maxRecDepth 100000 in
theorem eb_236 : ∃ oc cc, ee_bok 236 oc cc bd_236 := ee_bok_of (oc := 8) (cc := prog_10_method_77_code) rfl (by decide +kernel)
set_option maxRecDepth 100000 in
theorem eb_232 : ∃ oc cc, ee_bok 232 oc cc bd_232 := ee_bok_of (oc := 8) (cc := prog_10_method_78_code) rfl (by decide +kernel)
set_option maxRecDepth 100000 in
theorem eb_233 : ∃ oc cc, ee_bok 233 oc cc bd_233 := ee_bok_of (oc := 8) (cc := prog_10_method_79_code) rfl (by decide +kernel)
set_option maxRecDepth 100000 in
theorem eb_239 : ∃ oc cc, ee_bok 239 oc cc bd_239 := ee_bok_of (oc := 8) (cc := prog_10_method_80_code) rfl (by decide +kernel)
set_option maxRecDepth 100000 in
theorem eb_242 : ∃ oc cc, ee_bok 242 oc cc bd_242 := ee_bok_of (oc := 8) (cc := prog_10_method_81_code) rfl (by decide +kernel)
set_option maxRecDepth 100000 in
theorem eb_246 : ∃ oc cc, ee_bok 246 oc cc bd_246 := ee_bok_of (oc := 8) (cc := prog_10_method_82_code) rfl (by decide +kernel)
set_option maxRecDepth 100000 in
theorem eb_245 : ∃ oc cc, ee_bok 245 oc cc bd_245 := ee_bok_of (oc := 8) (cc := prog_10_method_83_code) rfl (by decide +kernel)
set_option maxRecDepth 100000 in
theorem eb_267 : ∃ oc cc, ee_bok 267 oc cc bd_267 := ee_bok_of (oc := 8) (cc := prog_10_method_84_code) rfl (by decide +kernel)
set_option maxRecDepth 100000 in
theorem eb_266 : ∃ oc cc, ee_bok 266 oc cc bd_266 := ee_bok_of (oc := 8) (cc := prog_10_method_85_code) rfl (by decide +kernel)
set_option maxRecDepth 100000 in
theorem eb_269 : ∃ oc cc, ee_bok 269 oc cc bd_269 := ee_bok_of (oc := 8) (cc := prog_10_method_86_code) rfl (by decide +kernel)
set_option maxRecDepth 100000 in
theorem eb_268 : ∃ oc cc, ee_bok 268 oc cc bd_268 := ee_bok_of (oc := 8) (cc := prog_10_method_87_code) rfl (by decide +kernel)
set_option maxRecDepth 100000 in
theorem eb_270 : ∃ oc cc, ee_bok 270 oc cc bd_270 := ee_bok_of (oc := 8) (cc := prog_10_method_88_code) rfl (by decide +kernel)
set_option maxRecDepth 100000 in
theorem eb_271 : ∃ oc cc, ee_bok 271 oc cc bd_271 := ee_bok_of (oc := 8) (cc := prog_10_method_89_code) rfl (by decide +kernel)
set_option maxRecDepth 100000 in
theorem eb_272 : ∃ oc cc, ee_bok 272 oc cc bd_272 := ee_bok_of (oc := 8) (cc := prog_10_method_90_code) rfl (by decide +kernel)
set_option maxRecDepth 100000 in
theorem eb_273 : ∃ oc cc, ee_bok 273 oc cc bd_273 := ee_bok_of (oc := 8) (cc := prog_10_method_91_code) rfl (by decide +kernel)
set_option maxRecDepth 100000 in
theorem eb_274 : ∃ oc cc, ee_bok 274 oc cc bd_274 := ee_bok_of (oc := 8) (cc := prog_10_method_92_code) rfl (by decide +kernel)
set_option maxRecDepth 100000 in
theorem eb_276 : ∃ oc cc, ee_bok 276 oc cc bd_276 := ee_bok_of (oc := 8) (cc := prog_10_method_93_code) rfl (by decide +kernel)
set_option maxRecDepth 100000 in
theorem eb_275 : ∃ oc cc, ee_bok 275 oc cc bd_275 := ee_bok_of (oc := 8) (cc := prog_10_method_94_code) rfl (by decide +kernel)
set_option maxRecDepth 100000 in
theorem eb_278 : ∃ oc cc, ee_bok 278 oc cc bd_278 := ee_bok_of (oc := 8) (cc := prog_10_method_95_code) rfl (by decide +kernel)
set_option maxRecDepth 100000 in
theorem eb_277 : ∃ oc cc, ee_bok 277 oc cc bd_277 := ee_bok_of (oc := 8) (cc := prog_10_method_96_code) rfl (by decide +kernel)
set_option maxRecDepth 100000 in
theorem eb_280 : ∃ oc cc, ee_bok 280 oc cc bd_280 := ee_bok_of (oc := 8) (cc := prog_10_method_97_code) rfl (by decide +kernel)
set_option maxRecDepth 100000 in
theorem eb_279 : ∃ oc cc, ee_bok 279 oc cc bd_279 := ee_bok_of (oc := 8) (cc := prog_10_method_98_code) rfl (by decide +kernel)
set_option maxRecDepth 100000 in
theorem eb_282 : ∃ oc cc, ee_bok 282 oc cc bd_282 := ee_bok_of (oc := 8) (cc := prog_10_method_99_code) rfl (by decide +kernel)
set_option maxRecDepth 100000 in
theorem eb_283 : ∃ oc cc, ee_bok 283 oc cc bd_283 := ee_bok_of (oc := 8) (cc := prog_10_method_100_code) rfl (by decide +kernel)
set_option maxRecDepth 100000 in
theorem eb_281 : ∃ oc cc, ee_bok 281 oc cc bd_281 := ee_bok_of (oc := 8) (cc := prog_10_method_101_code) rfl (by decide +kernel)
set_option maxRecDepth 100000 in
theorem eb_284 : ∃ oc cc, ee_bok 284 oc cc bd_284 := ee_bok_of (oc := 8) (cc := prog_10_method_102_code) rfl (by decide +kernel)
set_option maxRecDepth 100000 in
theorem eb_286 : ∃ oc cc, ee_bok 286 oc cc bd_286 := ee_bok_of (oc := 8) (cc := prog_10_method_103_code) rfl (by decide +kernel)
set_option maxRecDepth 100000 in
theorem eb_285 : ∃ oc cc, ee_bok 285 oc cc bd_285 := ee_bok_of (oc := 8) (cc := prog_10_method_104_code) rfl (by decide +kernel)
set_option maxRecDepth 100000 in
theorem eb_287 : ∃ oc cc, ee_bok 287 oc cc bd_287 := ee_bok_of (oc := 8) (cc := prog_10_method_105_code) rfl (by decide +kernel)
set_option maxRecDepth 100000 in
theorem eb_289 : ∃ oc cc, ee_bok 289 oc cc bd_289 := ee_bok_of (oc := 8) (cc := prog_10_method_106_code) rfl (by decide +kernel)
set_option maxRecDepth 100000 in
theorem eb_290 : ∃ oc cc, ee_bok 290 oc cc bd_290 := ee_bok_of (oc := 8) (cc := prog_10_method_107_code) rfl (by decide +kernel)
set_option maxRecDepth 100000 in
theorem eb_288 : ∃ oc cc, ee_bok 288 oc cc bd_288 := ee_bok_of (oc := 8) (cc := prog_10_method_108_code) rfl (by decide +kernel)
set_option maxRecDepth 100000 in
theorem eb_293 : ∃ oc cc, ee_bok 293 oc cc bd_293 := ee_bok_of (oc := 8) (cc := prog_10_method_109_code) rfl (by decide +kernel)
set_option maxRecDepth 100000 in
theorem eb_292 : ∃ oc cc, ee_bok 292 oc cc bd_292 := ee_bok_of (oc := 8) (cc := prog_10_method_110_code) rfl (by decide +kernel)
set_option maxRecDepth 100000 in
theorem eb_299 : ∃ oc cc, ee_bok 299 oc cc bd_299 := ee_bok_of (oc := 8) (cc := prog_10_method_111_code) rfl (by decide +kernel)
set_option maxRecDepth 100000 in
theorem eb_296 : ∃ oc cc, ee_bok 296 oc cc bd_296 := ee_bok_of (oc := 8) (cc := prog_10_method_112_code) rfl (by decide +kernel)
set_option maxRecDepth 100000 in
theorem eb_295 : ∃ oc cc, ee_bok 295 oc cc bd_295 := ee_bok_of (oc := 8) (cc := prog_10_method_113_code) rfl (by decide +kernel)
set_option maxRecDepth 100000 in
theorem eb_297 : ∃ oc cc, ee_bok 297 oc cc bd_297 := ee_bok_of (oc := 8) (cc := prog_10_method_114_code) rfl (by decide +kernel)
set_option maxRecDepth 100000 in
theorem eb_294 : ∃ oc cc, ee_bok 294 oc cc bd_294 := ee_bok_of (oc := 8) (cc := prog_10_method_115_code) rfl (by decide +kernel)
set_option maxRecDepth 100000 in
theorem eb_300 : ∃ oc cc, ee_bok 300 oc cc bd_300 := ee_bok_of (oc := 8) (cc := prog_10_method_116_code) rfl (by decide +kernel)
set_option maxRecDepth 100000 in
theorem eb_301 : ∃ oc cc, ee_bok 301 oc cc bd_301 := ee_bok_of (oc := 8) (cc := prog_10_method_117_code) rfl (by decide +kernel)
set_option maxRecDepth 100000 in
theorem eb_298 : ∃ oc cc, ee_bok 298 oc cc bd_298 := ee_bok_of (oc := 8) (cc := prog_10_method_118_code) rfl (by decide +kernel)
set_option maxRecDepth 100000 in
theorem eb_302 : ∃ oc cc, ee_bok 302 oc cc bd_302 := ee_bok_of (oc := 8) (cc := prog_10_method_119_code) rfl (by decide +kernel)
set_option maxRecDepth 100000 in
theorem eb_303 : ∃ oc cc, ee_bok 303 oc cc bd_303 := ee_bok_of (oc := 8) (cc := prog_10_method_120_code) rfl (by decide +kernel)
set_option maxRecDepth 100000 in
theorem eb_305 : ∃ oc cc, ee_bok 305 oc cc bd_305 := ee_bok_of (oc := 8) (cc := prog_10_method_121_code) rfl (by decide +kernel)
set_option maxRecDepth 100000 in
theorem eb_304 : ∃ oc cc, ee_bok 304 oc cc bd_304 := ee_bok_of (oc := 8) (cc := prog_10_method_122_code) rfl (by decide +kernel)
set_option maxRecDepth 100000 in
theorem eb_306 : ∃ oc cc, ee_bok 306 oc cc bd_306 := ee_bok_of (oc := 8) (cc := prog_10_method_123_code) rfl (by decide +kernel)
set_option maxRecDepth 100000 in
theorem eb_307 : ∃ oc cc, ee_bok 307 oc cc bd_307 := ee_bok_of (oc := 8) (cc := prog_10_method_124_code) rfl (by decide +kernel)
set_option maxRecDepth 100000 in
theorem eb_312 : ∃ oc cc, ee_bok 312 oc cc bd_312 := ee_bok_of (oc := 8) (cc := prog_10_method_125_code) rfl (by decide +kernel)
set_option maxRecDepth 100000 in
theorem eb_311 : ∃ oc cc, ee_bok 311 oc cc bd_311 := ee_bok_of (oc := 8) (cc := prog_10_method_126_code) rfl (by decide +kernel)
set_option maxRecDepth 100000 in
theorem eb_310 : ∃ oc cc, ee_bok 310 oc cc bd_310 := ee_bok_of (oc := 8) (cc := prog_10_method_127_code) rfl (by decide +kernel)
set_option maxRecDepth 100000 in
theorem eb_309 : ∃ oc cc, ee_bok 309 oc cc bd_309 := ee_bok_of (oc := 8) (cc := prog_10_method_128_code) rfl (by decide +kernel)
set_option maxRecDepth 100000 in
theorem eb_308 : ∃ oc cc, ee_bok 308 oc cc bd_308 := ee_bok_of (oc := 8) (cc := prog_10_method_129_code) rfl (by decide +kernel)
set_option maxRecDepth 100000 in
theorem eb_313 : ∃ oc cc, ee_bok 313 oc cc bd_313 := ee_bok_of (oc := 8) (cc := prog_10_method_130_code) rfl (by decide +kernel)
set_option maxRecDepth 100000 in
theorem eb_315 : ∃ oc cc, ee_bok 315 oc cc bd_315 := ee_bok_of (oc := 8) (cc := prog_10_method_131_code) rfl (by decide +kernel)
set_option maxRecDepth 100000 in
theorem eb_317 : ∃ oc cc, ee_bok 317 oc cc bd_317 := ee_bok_of (oc := 8) (cc := prog_10_method_132_code) rfl (by decide +kernel)
set_option maxRecDepth 100000 in
theorem eb_316 : ∃ oc cc, ee_bok 316 oc cc bd_316 := ee_bok_of (oc := 8) (cc := prog_10_method_133_code) rfl (by decide +kernel)
set_option maxRecDepth 100000 in
theorem eb_319 : ∃ oc cc, ee_bok 319 oc cc bd_319 := ee_bok_of (oc := 8) (cc := prog_10_method_134_code) rfl (by decide +kernel)
set_option maxRecDepth 100000 in
theorem eb_314 : ∃ oc cc, ee_bok 314 oc cc bd_314 := ee_bok_of (oc := 8) (cc := prog_10_method_135_code) rfl (by decide +kernel)
set_option maxRecDepth 100000 in
theorem eb_318 : ∃ oc cc, ee_bok 318 oc cc bd_318 := ee_bok_of (oc := 8) (cc := prog_10_method_136_code) rfl (by decide +kernel)
set_option maxRecDepth 100000 in
theorem eb_320 : ∃ oc cc, ee_bok 320 oc cc bd_320 := ee_bok_of (oc := 8) (cc := prog_10_method_137_code) rfl (by decide +kernel)
set_option maxRecDepth 100000 in
theorem eb_321 : ∃ oc cc, ee_bok 321 oc cc bd_321 := ee_bok_of (oc := 8) (cc := prog_10_method_138_code) rfl (by decide +kernel)
set_option maxRecDepth 100000 in
theorem eb_324 : ∃ oc cc, ee_bok 324 oc cc bd_324 := ee_bok_of (oc := 8) (cc := prog_10_method_139_code) rfl (by decide +kernel)
set_option maxRecDepth 100000 in
theorem eb_323 : ∃ oc cc, ee_bok 323 oc cc bd_323 := ee_bok_of (oc := 8) (cc := prog_10_method_140_code) rfl (by decide +kernel)
set_option maxRecDepth 100000 in
theorem eb_327 : ∃ oc cc, ee_bok 327 oc cc bd_327 := ee_bok_of (oc := 8) (cc := prog_10_method_141_code) rfl (by decide +kernel)
set_option maxRecDepth 100000 in
theorem eb_326 : ∃ oc cc, ee_bok 326 oc cc bd_326 := ee_bok_of (oc := 8) (cc := prog_10_method_142_code) rfl (by decide +kernel)
set_option maxRecDepth 100000 in
theorem eb_325 : ∃ oc cc, ee_bok 325 oc cc bd_325 := ee_bok_of (oc := 8) (cc := prog_10_method_143_code) rfl (by decide +kernel)
set_option maxRecDepth 100000 in
theorem eb_322 : ∃ oc cc, ee_bok 322 oc cc bd_322 := ee_bok_of (oc := 8) (cc := prog_10_method_144_code) rfl (by decide +kernel)
set_option maxRecDepth 100000 in
theorem eb_328 : ∃ oc cc, ee_bok 328 oc cc bd_328 := ee_bok_of (oc := 8) (cc := prog_10_method_145_code) rfl (by decide +kernel)
set_option maxRecDepth 100000 in
theorem eb_329 : ∃ oc cc, ee_bok 329 oc cc bd_329 := ee_bok_of (oc := 8) (cc := prog_10_method_146_code) rfl (by decide +kernel)
set_option maxRecDepth 100000 in
theorem eb_331 : ∃ oc cc, ee_bok 331 oc cc bd_331 := ee_bok_of (oc := 8) (cc := prog_10_method_147_code) rfl (by decide +kernel)
set_option maxRecDepth 100000 in
theorem eb_330 : ∃ oc cc, ee_bok 330 oc cc bd_330 := ee_bok_of (oc := 8) (cc := prog_10_method_148_code) rfl (by decide +kernel)
set_option maxRecDepth 100000 in
theorem eb_332 : ∃ oc cc, ee_bok 332 oc cc bd_332 := ee_bok_of (oc := 8) (cc := prog_10_method_149_code) rfl (by decide +kernel)
set_option maxRecDepth 100000 in
theorem eb_333 : ∃ oc cc, ee_bok 333 oc cc bd_333 := ee_bok_of (oc := 8) (cc := prog_10_method_150_code) rfl (by decide +kernel)
set_option maxRecDepth 100000 in
theorem eb_335 : ∃ oc cc, ee_bok 335 oc cc bd_335 := ee_bok_of (oc := 8) (cc := prog_10_method_151_code) rfl (by decide +kernel)
set_option maxRecDepth 100000 in
theorem eb_334 : ∃ oc cc, ee_bok 334 oc cc bd_334 := ee_bok_of (oc := 8) (cc := prog_10_method_152_code) rfl (by decide +kernel)
set_option maxRecDepth 100000 in
theorem eb_337 : ∃ oc cc, ee_bok 337 oc cc bd_337 := ee_bok_of (oc := 8) (cc := prog_10_method_153_code) rfl (by decide +kernel)
set_option maxRecDepth 100000 in
theorem eb_336 : ∃ oc cc, ee_bok 336 oc cc bd_336 := ee_bok_of (oc := 8) (cc := prog_10_method_154_code) rfl (by decide +kernel)
set_option maxRecDepth 100000 in
theorem eb_338 : ∃ oc cc, ee_bok 338 oc cc bd_338 := ee_bok_of (oc := 8) (cc := prog_10_method_155_code) rfl (by decide +kernel)
set_option maxRecDepth 100000 in
theorem eb_339 : ∃ oc cc, ee_bok 339 oc cc bd_339 := ee_bok_of (oc := 8) (cc := prog_10_method_156_code) rfl (by decide +kernel)
set_option maxRecDepth 100000 in
theorem eb_340 : ∃ oc cc, ee_bok 340 oc cc bd_340 := ee_bok_of (oc := 8) (cc := prog_10_method_157_code) rfl (by decide +kernel)
set_option maxRecDepth 100000 in
theorem eb_341 : ∃ oc cc, ee_bok 341 oc cc bd_341 := ee_bok_of (oc := 8) (cc := prog_10_method_158_code) rfl (by decide +kernel)
set_option maxRecDepth 100000 in
theorem eb_342 : ∃ oc cc, ee_bok 342 oc cc bd_342 := ee_bok_of (oc := 8) (cc := prog_10_method_159_code) rfl (by decide +kernel)
set_option maxRecDepth 100000 in
theorem eb_343 : ∃ oc cc, ee_bok 343 oc cc bd_343 := ee_bok_of (oc := 8) (cc := prog_10_method_160_code) rfl (by decide +kernel)
set_option maxRecDepth 100000 in
theorem eb_74 : ∃ oc cc, ee_bok 74 oc cc bd_74 := ee_bok_of (oc := 10) (cc := prog_12_method_65_code) rfl (by decide +kernel)
set_option maxRecDepth 100000 in
theorem eb_18 : ∃ oc cc, ee_bok 18 oc cc bd_18 := ee_bok_of (oc := 10) (cc := prog_12_method_69_code) rfl (by decide +kernel)
set_option maxRecDepth 100000 in
theorem eb_97 : ∃ oc cc, ee_bok 97 oc cc bd_97 := ee_bok_of (oc := 10) (cc := prog_12_method_66_code) rfl (by decide +kernel)
set_option maxRecDepth 100000 in
theorem eb_96 : ∃ oc cc, ee_bok 96 oc cc bd_96 := ee_bok_of (oc := 10) (cc := prog_12_method_70_code) rfl (by decide +kernel)
set_option maxRecDepth 100000 in
theorem eb_92 : ∃ oc cc, ee_bok 92 oc cc bd_92 := ee_bok_of (oc := 10) (cc := prog_12_method_59_code) rfl (by decide +kernel)
set_option maxRecDepth 100000 in
theorem eb_67 : ∃ oc cc, ee_bok 67 oc cc bd_67 := ee_bok_of (oc := 10) (cc := prog_12_method_50_code) rfl (by decide +kernel)
set_option maxRecDepth 100000 in
theorem eb_130 : ∃ oc cc, ee_bok 130 oc cc bd_130 := ee_bok_of (oc := 11) (cc := prog_11_method_49_code) rfl (by decide +kernel)
theorem ee_BL_0_ok : ∀ q ∈ ee_BL_0, ∃ oc cc, ee_bok q.1 oc cc q.2.2 := List.forall_mem_cons.mpr ⟨eb_9, List.forall_mem_cons.mpr ⟨eb_11, List.forall_mem_cons.mpr ⟨eb_12, List.forall_mem_cons.mpr ⟨eb_13, List.forall_mem_cons.mpr ⟨eb_14, List.forall_mem_cons.mpr ⟨eb_15, List.forall_mem_cons.mpr ⟨eb_60, List.forall_mem_cons.mpr ⟨eb_61, List.forall_mem_cons.mpr ⟨eb_62, List.forall_mem_cons.mpr ⟨eb_63, List.forall_mem_cons.mpr ⟨eb_71, List.forall_mem_cons.mpr ⟨eb_75, List.forall_mem_cons.mpr ⟨eb_78, List.forall_mem_cons.mpr ⟨eb_79, List.forall_mem_cons.mpr ⟨eb_101, List.forall_mem_cons.mpr ⟨eb_102, List.forall_mem_cons.mpr ⟨eb_103, List.forall_mem_cons.mpr ⟨eb_104, List.forall_mem_cons.mpr ⟨eb_105, List.forall_mem_cons.mpr ⟨eb_80, List.forall_mem_cons.mpr ⟨eb_99, List.forall_mem_cons.mpr ⟨eb_87, List.forall_mem_cons.mpr ⟨eb_107, List.forall_mem_cons.mpr ⟨eb_108, List.forall_mem_cons.mpr ⟨eb_109, List.forall_mem_cons.mpr ⟨eb_110, List.forall_mem_cons.mpr ⟨eb_112, List.forall_mem_cons.mpr ⟨eb_113, List.forall_mem_cons.mpr ⟨eb_114, List.forall_mem_cons.mpr ⟨eb_116, List.forall_mem_cons.mpr ⟨eb_118, List.forall_mem_cons.mpr ⟨eb_120, List.forall_mem_cons.mpr ⟨eb_122, List.forall_mem_cons.mpr ⟨eb_127, List.forall_mem_cons.mpr ⟨eb_129, List.forall_mem_cons.mpr ⟨eb_131, List.forall_mem_cons.mpr ⟨eb_132, List.forall_mem_cons.mpr ⟨eb_115, List.forall_mem_cons.mpr ⟨eb_117, List.forall_mem_cons.mpr ⟨eb_119, fun _ h => absurd h List.not_mem_nil⟩⟩⟩⟩⟩⟩⟩⟩⟩⟩⟩⟩⟩⟩⟩⟩⟩⟩⟩⟩⟩⟩⟩⟩⟩⟩⟩⟩⟩⟩⟩⟩⟩⟩⟩⟩⟩⟩⟩⟩
theorem ee_BL_1_ok : ∀ q ∈ ee_BL_1, ∃ oc cc, ee_bok q.1 oc cc q.2.2 := List.forall_mem_cons.mpr ⟨eb_121, List.forall_mem_cons.mpr ⟨eb_124, List.forall_mem_cons.mpr ⟨eb_125, List.forall_mem_cons.mpr ⟨eb_123, List.forall_mem_cons.mpr ⟨eb_126, List.forall_mem_cons.mpr ⟨eb_128, List.forall_mem_cons.mpr ⟨eb_133, List.forall_mem_cons.mpr ⟨eb_134, List.forall_mem_cons.mpr ⟨eb_135, List.forall_mem_cons.mpr ⟨eb_136, List.forall_mem_cons.mpr ⟨eb_141, List.forall_mem_cons.mpr ⟨eb_91, List.forall_mem_cons.mpr ⟨eb_93, List.forall_mem_cons.mpr ⟨eb_137, List.forall_mem_cons.mpr ⟨eb_139, List.forall_mem_cons.mpr ⟨eb_142, List.forall_mem_cons.mpr ⟨eb_140, List.forall_mem_cons.mpr ⟨eb_138, List.forall_mem_cons.mpr ⟨eb_143, List.forall_mem_cons.mpr ⟨eb_146, List.forall_mem_cons.mpr ⟨eb_148, List.forall_mem_cons.mpr ⟨eb_144, List.forall_mem_cons.mpr ⟨eb_145, List.forall_mem_cons.mpr ⟨eb_147, List.forall_mem_cons.mpr ⟨eb_149, List.forall_mem_cons.mpr ⟨eb_150, List.forall_mem_cons.mpr ⟨eb_151, List.forall_mem_cons.mpr ⟨eb_157, List.forall_mem_cons.mpr ⟨eb_158, List.forall_mem_cons.mpr ⟨eb_159, List.forall_mem_cons.mpr ⟨eb_160, List.forall_mem_cons.mpr ⟨eb_161, List.forall_mem_cons.mpr ⟨eb_164, List.forall_mem_cons.mpr ⟨eb_165, List.forall_mem_cons.mpr ⟨eb_166, List.forall_mem_cons.mpr ⟨eb_167, List.forall_mem_cons.mpr ⟨eb_168, List.forall_mem_cons.mpr ⟨eb_169, List.forall_mem_cons.mpr ⟨eb_170, List.forall_mem_cons.mpr ⟨eb_171, fun _ h => absurd h List.not_mem_nil⟩⟩⟩⟩⟩⟩⟩⟩⟩⟩⟩⟩⟩⟩⟩⟩⟩⟩⟩⟩⟩⟩⟩⟩⟩⟩⟩⟩⟩⟩⟩⟩⟩⟩⟩⟩⟩⟩⟩⟩
theorem ee_BL_2_ok : ∀ q ∈ ee_BL_2, ∃ oc cc, ee_bok q.1 oc cc q.2.2 := List.forall_mem_cons.mpr ⟨eb_172, List.forall_mem_cons.mpr ⟨eb_162, List.forall_mem_cons.mpr ⟨eb_82, List.forall_mem_cons.mpr ⟨eb_84, List.forall_mem_cons.mpr ⟨eb_163, List.forall_mem_cons.mpr ⟨eb_173, List.forall_mem_cons.mpr ⟨eb_174, List.forall_mem_cons.mpr ⟨eb_175, List.forall_mem_cons.mpr ⟨eb_176, List.forall_mem_cons.mpr ⟨eb_178, List.forall_mem_cons.mpr ⟨eb_179, List.forall_mem_cons.mpr ⟨eb_182, List.forall_mem_cons.mpr ⟨eb_183, List.forall_mem_cons.mpr ⟨eb_10, List.forall_mem_cons.mpr ⟨eb_64, List.forall_mem_cons.mpr ⟨eb_85, List.forall_mem_cons.mpr ⟨eb_73, List.forall_mem_cons.mpr ⟨eb_68, List.forall_mem_cons.mpr ⟨eb_81, List.forall_mem_cons.mpr ⟨eb_83, List.forall_mem_cons.mpr ⟨eb_86, List.forall_mem_cons.mpr ⟨eb_98, List.forall_mem_cons.mpr ⟨eb_69, List.forall_mem_cons.mpr ⟨eb_72, List.forall_mem_cons.mpr ⟨eb_76, List.forall_mem_cons.mpr ⟨eb_77, List.forall_mem_cons.mpr ⟨eb_100, List.forall_mem_cons.mpr ⟨eb_70, List.forall_mem_cons.mpr ⟨eb_111, List.forall_mem_cons.mpr ⟨eb_177, List.forall_mem_cons.mpr ⟨eb_66, List.forall_mem_cons.mpr ⟨eb_65, List.forall_mem_cons.mpr ⟨eb_106, List.forall_mem_cons.mpr ⟨eb_181, List.forall_mem_cons.mpr ⟨eb_180, List.forall_mem_cons.mpr ⟨eb_17, List.forall_mem_cons.mpr ⟨eb_43, List.forall_mem_cons.mpr ⟨eb_49, List.forall_mem_cons.mpr ⟨eb_56, List.forall_mem_cons.mpr ⟨eb_16, fun _ h => absurd h List.not_mem_nil⟩⟩⟩⟩⟩⟩⟩⟩⟩⟩⟩⟩⟩⟩⟩⟩⟩⟩⟩⟩⟩⟩⟩⟩⟩⟩⟩⟩⟩⟩⟩⟩⟩⟩⟩⟩⟩⟩⟩⟩
theorem ee_BL_3_ok : ∀ q ∈ ee_BL_3, ∃ oc cc, ee_bok q.1 oc cc q.2.2 := List.forall_mem_cons.mpr ⟨eb_19, List.forall_mem_cons.mpr ⟨eb_34, List.forall_mem_cons.mpr ⟨eb_21, List.forall_mem_cons.mpr ⟨eb_22, List.forall_mem_cons.mpr ⟨eb_36, List.forall_mem_cons.mpr ⟨eb_37, List.forall_mem_cons.mpr ⟨eb_38, List.forall_mem_cons.mpr ⟨eb_20, List.forall_mem_cons.mpr ⟨eb_35, List.forall_mem_cons.mpr ⟨eb_39, List.forall_mem_cons.mpr ⟨eb_47, List.forall_mem_cons.mpr ⟨eb_41, List.forall_mem_cons.mpr ⟨eb_51, List.forall_mem_cons.mpr ⟨eb_40, List.forall_mem_cons.mpr ⟨eb_42, List.forall_mem_cons.mpr ⟨eb_58, List.forall_mem_cons.mpr ⟨eb_59, List.forall_mem_cons.mpr ⟨eb_48, List.forall_mem_cons.mpr ⟨eb_44, List.forall_mem_cons.mpr ⟨eb_45, List.forall_mem_cons.mpr ⟨eb_46, List.forall_mem_cons.mpr ⟨eb_50, List.forall_mem_cons.mpr ⟨eb_57, List.forall_mem_cons.mpr ⟨eb_52, List.forall_mem_cons.mpr ⟨eb_53, List.forall_mem_cons.mpr ⟨eb_54, List.forall_mem_cons.mpr ⟨eb_55, List.forall_mem_cons.mpr ⟨eb_88, List.forall_mem_cons.mpr ⟨eb_89, List.forall_mem_cons.mpr ⟨eb_90, List.forall_mem_cons.mpr ⟨eb_94, List.forall_mem_cons.mpr ⟨eb_95, List.forall_mem_cons.mpr ⟨eb_152, List.forall_mem_cons.mpr ⟨eb_156, List.forall_mem_cons.mpr ⟨eb_153, List.forall_mem_cons.mpr ⟨eb_155, List.forall_mem_cons.mpr ⟨eb_154, List.forall_mem_cons.mpr ⟨eb_185, List.forall_mem_cons.mpr ⟨eb_188, List.forall_mem_cons.mpr ⟨eb_241, fun _ h => absurd h List.not_mem_nil⟩⟩⟩⟩⟩⟩⟩⟩⟩⟩⟩⟩⟩⟩⟩⟩⟩⟩⟩⟩⟩⟩⟩⟩⟩⟩⟩⟩⟩⟩⟩⟩⟩⟩⟩⟩⟩⟩⟩⟩
theorem ee_BL_4_ok : ∀ q ∈ ee_BL_4, ∃ oc cc, ee_bok q.1 oc cc q.2.2 := List.forall_mem_cons.mpr ⟨eb_208, List.forall_mem_cons.mpr ⟨eb_291, List.forall_mem_cons.mpr ⟨eb_187, List.forall_mem_cons.mpr ⟨eb_235, List.forall_mem_cons.mpr ⟨eb_248, List.forall_mem_cons.mpr ⟨eb_186, List.forall_mem_cons.mpr ⟨eb_189, List.forall_mem_cons.mpr ⟨eb_259, List.forall_mem_cons.mpr ⟨eb_258, List.forall_mem_cons.mpr ⟨eb_257, List.forall_mem_cons.mpr ⟨eb_191, List.forall_mem_cons.mpr ⟨eb_190, List.forall_mem_cons.mpr ⟨eb_192, List.forall_mem_cons.mpr ⟨eb_196, List.forall_mem_cons.mpr ⟨eb_198, List.forall_mem_cons.mpr ⟨eb_197, List.forall_mem_cons.mpr ⟨eb_199, List.forall_mem_cons.mpr ⟨eb_195, List.forall_mem_cons.mpr ⟨eb_205, List.forall_mem_cons.mpr ⟨eb_204, List.forall_mem_cons.mpr ⟨eb_203, List.forall_mem_cons.mpr ⟨eb_202, List.forall_mem_cons.mpr ⟨eb_207, List.forall_mem_cons.mpr ⟨eb_206, List.forall_mem_cons.mpr ⟨eb_222, List.forall_mem_cons.mpr ⟨eb_226, List.forall_mem_cons.mpr ⟨eb_225, List.forall_mem_cons.mpr ⟨eb_227, List.forall_mem_cons.mpr ⟨eb_219, List.forall_mem_cons.mpr ⟨eb_221, List.forall_mem_cons.mpr ⟨eb_217, List.forall_mem_cons.mpr ⟨eb_216, List.forall_mem_cons.mpr ⟨eb_218, List.forall_mem_cons.mpr ⟨eb_229, List.forall_mem_cons.mpr ⟨eb_228, List.forall_mem_cons.mpr ⟨eb_224, List.forall_mem_cons.mpr ⟨eb_220, List.forall_mem_cons.mpr ⟨eb_215, List.forall_mem_cons.mpr ⟨eb_223, List.forall_mem_cons.mpr ⟨eb_214, fun _ h => absurd h List.not_mem_nil⟩⟩⟩⟩⟩⟩⟩⟩⟩⟩⟩⟩⟩⟩⟩⟩⟩⟩⟩⟩⟩⟩⟩⟩⟩⟩⟩⟩⟩⟩⟩⟩⟩⟩⟩⟩⟩⟩⟩⟩
theorem ee_BL_5_ok : ∀ q ∈ ee_BL_5, ∃ oc cc, ee_bok q.1 oc cc q.2.2 := List.forall_mem_cons.mpr ⟨eb_213, List.forall_mem_cons.mpr ⟨eb_211, List.forall_mem_cons.mpr ⟨eb_212, List.forall_mem_cons.mpr ⟨eb_210, List.forall_mem_cons.mpr ⟨eb_209, List.forall_mem_cons.mpr ⟨eb_201, List.forall_mem_cons.mpr ⟨eb_200, List.forall_mem_cons.mpr ⟨eb_194, List.forall_mem_cons.mpr ⟨eb_193, List.forall_mem_cons.mpr ⟨eb_230, List.forall_mem_cons.mpr ⟨eb_231, List.forall_mem_cons.mpr ⟨eb_261, List.forall_mem_cons.mpr ⟨eb_260, List.forall_mem_cons.mpr ⟨eb_262, List.forall_mem_cons.mpr ⟨eb_256, List.forall_mem_cons.mpr ⟨eb_263, List.forall_mem_cons.mpr ⟨eb_255, List.forall_mem_cons.mpr ⟨eb_254, List.forall_mem_cons.mpr ⟨eb_253, List.forall_mem_cons.mpr ⟨eb_265, List.forall_mem_cons.mpr ⟨eb_252, List.forall_mem_cons.mpr ⟨eb_238, List.forall_mem_cons.mpr ⟨eb_250, List.forall_mem_cons.mpr ⟨eb_251, List.forall_mem_cons.mpr ⟨eb_249, List.forall_mem_cons.mpr ⟨eb_264, List.forall_mem_cons.mpr ⟨eb_247, List.forall_mem_cons.mpr ⟨eb_234, List.forall_mem_cons.mpr ⟨eb_237, List.forall_mem_cons.mpr ⟨eb_240, List.forall_mem_cons.mpr ⟨eb_243, List.forall_mem_cons.mpr ⟨eb_244, List.forall_mem_cons.mpr ⟨eb_236, List.forall_mem_cons.mpr ⟨eb_232, List.forall_mem_cons.mpr ⟨eb_233, List.forall_mem_cons.mpr ⟨eb_239, List.forall_mem_cons.mpr ⟨eb_242, List.forall_mem_cons.mpr ⟨eb_246, List.forall_mem_cons.mpr ⟨eb_245, List.forall_mem_cons.mpr ⟨eb_267, fun _ h => absurd h List.not_mem_nil⟩⟩⟩⟩⟩⟩⟩⟩⟩⟩⟩⟩⟩⟩⟩⟩⟩⟩⟩⟩⟩⟩⟩⟩⟩⟩⟩⟩⟩⟩⟩⟩⟩⟩⟩⟩⟩⟩⟩⟩
theorem ee_BL_6_ok : ∀ q ∈ ee_BL_6, ∃ oc cc, ee_bok q.1 oc cc q.2.2 := List.forall_mem_cons.mpr ⟨eb_266, List.forall_mem_cons.mpr ⟨eb_269, List.forall_mem_cons.mpr ⟨eb_268, List.forall_mem_cons.mpr ⟨eb_270, List.forall_mem_cons.mpr ⟨eb_271, List.forall_mem_cons.mpr ⟨eb_272, List.forall_mem_cons.mpr ⟨eb_273, List.forall_mem_cons.mpr ⟨eb_274, List.forall_mem_cons.mpr ⟨eb_276, List.forall_mem_cons.mpr ⟨eb_275, List.forall_mem_cons.mpr ⟨eb_278, List.forall_mem_cons.mpr ⟨eb_277, List.forall_mem_cons.mpr ⟨eb_280, List.forall_mem_cons.mpr ⟨eb_279, List.forall_mem_cons.mpr ⟨eb_282, List.forall_mem_cons.mpr ⟨eb_283, List.forall_mem_cons.mpr ⟨eb_281, List.forall_mem_cons.mpr ⟨eb_284, List.forall_mem_cons.mpr ⟨eb_286, List.forall_mem_cons.mpr ⟨eb_285, List.forall_mem_cons.mpr ⟨eb_287, List.forall_mem_cons.mpr ⟨eb_289, List.forall_mem_cons.mpr ⟨eb_290, List.forall_mem_cons.mpr ⟨eb_288, List.forall_mem_cons.mpr ⟨eb_293, List.forall_mem_cons.mpr ⟨eb_292, List.forall_mem_cons.mpr ⟨eb_299, List.forall_mem_cons.mpr ⟨eb_296, List.forall_mem_cons.mpr ⟨eb_295, List.forall_mem_cons.mpr ⟨eb_297, List.forall_mem_cons.mpr ⟨eb_294, List.forall_mem_cons.mpr ⟨eb_300, List.forall_mem_cons.mpr ⟨eb_301, List.forall_mem_cons.mpr ⟨eb_298, List.forall_mem_cons.mpr ⟨eb_302, List.forall_mem_cons.mpr ⟨eb_303, List.forall_mem_cons.mpr ⟨eb_305, List.forall_mem_cons.mpr ⟨eb_304, List.forall_mem_cons.mpr ⟨eb_306, List.forall_mem_cons.mpr ⟨eb_307, fun _ h => absurd h List.not_mem_nil⟩⟩⟩⟩⟩⟩⟩⟩⟩⟩⟩⟩⟩⟩⟩⟩⟩⟩⟩⟩⟩⟩⟩⟩⟩⟩⟩⟩⟩⟩⟩⟩⟩⟩⟩⟩⟩⟩⟩⟩
theorem ee_BL_7_ok : ∀ q ∈ ee_BL_7, ∃ oc cc, ee_bok q.1 oc cc q.2.2 := List.forall_mem_cons.mpr ⟨eb_312, List.forall_mem_cons.mpr ⟨eb_311, List.forall_mem_cons.mpr ⟨eb_310, List.forall_mem_cons.mpr ⟨eb_309, List.forall_mem_cons.mpr ⟨eb_308, List.forall_mem_cons.mpr ⟨eb_313, List.forall_mem_cons.mpr ⟨eb_315, List.forall_mem_cons.mpr ⟨eb_317, List.forall_mem_cons.mpr ⟨eb_316, List.forall_mem_cons.mpr ⟨eb_319, List.forall_mem_cons.mpr ⟨eb_314, List.forall_mem_cons.mpr ⟨eb_318, List.forall_mem_cons.mpr ⟨eb_320, List.forall_mem_cons.mpr ⟨eb_321, List.forall_mem_cons.mpr ⟨eb_324, List.forall_mem_cons.mpr ⟨eb_323, List.forall_mem_cons.mpr ⟨eb_327, List.forall_mem_cons.mpr ⟨eb_326, List.forall_mem_cons.mpr ⟨eb_325, List.forall_mem_cons.mpr ⟨eb_322, List.forall_mem_cons.mpr ⟨eb_328, List.forall_mem_cons.mpr ⟨eb_329, List.forall_mem_cons.mpr ⟨eb_331, List.forall_mem_cons.mpr ⟨eb_330, List.forall_mem_cons.mpr ⟨eb_332, List.forall_mem_cons.mpr ⟨eb_333, List.forall_mem_cons.mpr ⟨eb_335, List.forall_mem_cons.mpr ⟨eb_334, List.forall_mem_cons.mpr ⟨eb_337, List.forall_mem_cons.mpr ⟨eb_336, List.forall_mem_cons.mpr ⟨eb_338, List.forall_mem_cons.mpr ⟨eb_339, List.forall_mem_cons.mpr ⟨eb_340, List.forall_mem_cons.mpr ⟨eb_341, List.forall_mem_cons.mpr ⟨eb_342, List.forall_mem_cons.mpr ⟨eb_343, List.forall_mem_cons.mpr ⟨eb_74, List.forall_mem_cons.mpr ⟨eb_18, List.forall_mem_cons.mpr ⟨eb_97, List.forall_mem_cons.mpr ⟨eb_96, fun _ h => absurd h List.not_mem_nil⟩⟩⟩⟩⟩⟩⟩⟩⟩⟩⟩⟩⟩⟩⟩⟩⟩⟩⟩⟩⟩⟩⟩⟩⟩⟩⟩⟩⟩⟩⟩⟩⟩⟩⟩⟩⟩⟩⟩⟩
theorem ee_BL_8_ok : ∀ q ∈ ee_BL_8, ∃ oc cc, ee_bok q.1 oc cc q.2.2 := List.forall_mem_cons.mpr ⟨eb_92, List.forall_mem_cons.mpr ⟨eb_67, List.forall_mem_cons.mpr ⟨eb_130, fun _ h => absurd h List.not_mem_nil⟩⟩⟩
theorem ee_BL_ok : ∀ q ∈ ee_BL, ∃ oc cc, ee_bok q.1 oc cc q.2.2 := by
  unfold ee_BL
  exact List.forall_mem_append.mpr ⟨ee_BL_0_ok, List.forall_mem_append.mpr ⟨ee_BL_1_ok, List.forall_mem_append.mpr ⟨ee_BL_2_ok, List.forall_mem_append.mpr ⟨ee_BL_3_ok, List.forall_mem_append.mpr ⟨ee_BL_4_ok, List.forall_mem_append.mpr ⟨ee_BL_5_ok, List.forall_mem_append.mpr ⟨ee_BL_6_ok, List.forall_mem_append.mpr ⟨ee_BL_7_ok, ee_BL_8_ok⟩⟩⟩⟩⟩⟩⟩⟩
theorem ee_B_ok (mi : Nat) (body : ee_T) (h : ee_B mi = some body) : ∃ oc cc, ee_bok mi oc cc body := by
  unfold ee_B at h
  rw [Option.map_eq_some_iff] at h
  obtain ⟨q, hq, rfl⟩ := h
  have h1 := List.find?_some hq
  rw [beq_iff_eq] at h1
  rw [← h1]
  exact ee_BL_ok q (List.mem_of_find?_eq_some hq)

