/-! decode rows of the law (written by wip/whole/mk_law2.py) -/
theorem d_Law_law_0 : decode code 0 = .ok (.new 8, 3) := by decide +kernel
theorem d_Law_law_3 : decode code 3 = .ok (.dup, 1) := by decide +kernel
theorem d_Law_law_4 : decode code 4 = .ok (.invokespecial 59, 3) := by decide +kernel
theorem d_Law_law_7 : decode code 7 = .ok (.astore_n 1, 1) := by decide +kernel
theorem d_Law_law_8 : decode code 8 = .ok (.new 60, 3) := by decide +kernel
theorem d_Law_law_11 : decode code 11 = .ok (.dup, 1) := by decide +kernel
theorem d_Law_law_12 : decode code 12 = .ok (.invokespecial 62, 3) := by decide +kernel
theorem d_Law_law_15 : decode code 15 = .ok (.astore_n 2, 1) := by decide +kernel
theorem d_Law_law_16 : decode code 16 = .ok (.iconst 1, 1) := by decide +kernel
theorem d_Law_law_17 : decode code 17 = .ok (.newarray .long, 2) := by decide +kernel
theorem d_Law_law_19 : decode code 19 = .ok (.astore_n 3, 1) := by decide +kernel
theorem d_Law_law_20 : decode code 20 = .ok (.iconst 0, 1) := by decide +kernel
theorem d_Law_law_21 : decode code 21 = .ok (.istore 4, 2) := by decide +kernel
theorem d_Law_law_23 : decode code 23 = .ok (.iload 4, 2) := by decide +kernel
theorem d_Law_law_25 : decode code 25 = .ok (.aload_n 0, 1) := by decide +kernel
theorem d_Law_law_26 : decode code 26 = .ok (.arraylength, 1) := by decide +kernel
theorem d_Law_law_27 : decode code 27 = .ok (.iconst 4, 1) := by decide +kernel
theorem d_Law_law_28 : decode code 28 = .ok (.isub, 1) := by decide +kernel
theorem d_Law_law_29 : decode code 29 = .ok (.if_icmp .gt 818, 3) := by decide +kernel
theorem d_Law_law_32 : decode code 32 = .ok (.aload_n 0, 1) := by decide +kernel
theorem d_Law_law_33 : decode code 33 = .ok (.iload 4, 2) := by decide +kernel
theorem d_Law_law_35 : decode code 35 = .ok (.iaload, 1) := by decide +kernel
theorem d_Law_law_36 : decode code 36 = .ok (.bipush 15, 2) := by decide +kernel
theorem d_Law_law_38 : decode code 38 = .ok (.iand, 1) := by decide +kernel
theorem d_Law_law_39 : decode code 39 = .ok (.tableswitch 802 0 13 #[69, 117, 173, 241, 301, 349, 417, 485, 498, 566, 610, 678, 733, 789], 69) := by decide +kernel
theorem d_Law_law_108 : decode code 108 = .ok (.aload_n 1, 1) := by decide +kernel
theorem d_Law_law_109 : decode code 109 = .ok (.aload_n 0, 1) := by decide +kernel
theorem d_Law_law_110 : decode code 110 = .ok (.iload 4, 2) := by decide +kernel
theorem d_Law_law_112 : decode code 112 = .ok (.iconst 1, 1) := by decide +kernel
theorem d_Law_law_113 : decode code 113 = .ok (.iadd, 1) := by decide +kernel
theorem d_Law_law_114 : decode code 114 = .ok (.iaload, 1) := by decide +kernel
theorem d_Law_law_115 : decode code 115 = .ok (.aload_n 0, 1) := by decide +kernel
theorem d_Law_law_116 : decode code 116 = .ok (.iload 4, 2) := by decide +kernel
theorem d_Law_law_118 : decode code 118 = .ok (.iconst 2, 1) := by decide +kernel
theorem d_Law_law_119 : decode code 119 = .ok (.iadd, 1) := by decide +kernel
theorem d_Law_law_120 : decode code 120 = .ok (.iaload, 1) := by decide +kernel
theorem d_Law_law_121 : decode code 121 = .ok (.invokestatic 63, 3) := by decide +kernel
theorem d_Law_law_124 : decode code 124 = .ok (.istore 5, 2) := by decide +kernel
theorem d_Law_law_126 : decode code 126 = .ok (.aload_n 2, 1) := by decide +kernel
theorem d_Law_law_127 : decode code 127 = .ok (.aload_n 0, 1) := by decide +kernel
theorem d_Law_law_128 : decode code 128 = .ok (.iload 4, 2) := by decide +kernel
theorem d_Law_law_130 : decode code 130 = .ok (.iconst 1, 1) := by decide +kernel
theorem d_Law_law_131 : decode code 131 = .ok (.iadd, 1) := by decide +kernel
theorem d_Law_law_132 : decode code 132 = .ok (.iaload, 1) := by decide +kernel
theorem d_Law_law_133 : decode code 133 = .ok (.aload_n 0, 1) := by decide +kernel
theorem d_Law_law_134 : decode code 134 = .ok (.iload 4, 2) := by decide +kernel
theorem d_Law_law_136 : decode code 136 = .ok (.iconst 2, 1) := by decide +kernel
theorem d_Law_law_137 : decode code 137 = .ok (.iadd, 1) := by decide +kernel
theorem d_Law_law_138 : decode code 138 = .ok (.iaload, 1) := by decide +kernel
theorem d_Law_law_139 : decode code 139 = .ok (.invokevirtual 68, 3) := by decide +kernel
theorem d_Law_law_142 : decode code 142 = .ok (.aload_n 2, 1) := by decide +kernel
theorem d_Law_law_143 : decode code 143 = .ok (.invokevirtual 69, 3) := by decide +kernel
theorem d_Law_law_146 : decode code 146 = .ok (.iload 5, 2) := by decide +kernel
theorem d_Law_law_148 : decode code 148 = .ok (.if_icmp .eq 5, 3) := by decide +kernel
theorem d_Law_law_151 : decode code 151 = .ok (.iconst 0, 1) := by decide +kernel
theorem d_Law_law_152 : decode code 152 = .ok (.ireturn, 1) := by decide +kernel
theorem d_Law_law_153 : decode code 153 = .ok (.goto 688, 3) := by decide +kernel
theorem d_Law_law_156 : decode code 156 = .ok (.aload_n 1, 1) := by decide +kernel
theorem d_Law_law_157 : decode code 157 = .ok (.aload_n 0, 1) := by decide +kernel
theorem d_Law_law_158 : decode code 158 = .ok (.iload 4, 2) := by decide +kernel
theorem d_Law_law_160 : decode code 160 = .ok (.iconst 1, 1) := by decide +kernel
theorem d_Law_law_161 : decode code 161 = .ok (.iadd, 1) := by decide +kernel
theorem d_Law_law_162 : decode code 162 = .ok (.iaload, 1) := by decide +kernel
theorem d_Law_law_163 : decode code 163 = .ok (.aload_n 3, 1) := by decide +kernel
theorem d_Law_law_164 : decode code 164 = .ok (.invokestatic 72, 3) := by decide +kernel
theorem d_Law_law_167 : decode code 167 = .ok (.istore 5, 2) := by decide +kernel
theorem d_Law_law_169 : decode code 169 = .ok (.aload_n 2, 1) := by decide +kernel
theorem d_Law_law_170 : decode code 170 = .ok (.aload_n 0, 1) := by decide +kernel
theorem d_Law_law_171 : decode code 171 = .ok (.iload 4, 2) := by decide +kernel
theorem d_Law_law_173 : decode code 173 = .ok (.iconst 1, 1) := by decide +kernel
theorem d_Law_law_174 : decode code 174 = .ok (.iadd, 1) := by decide +kernel
theorem d_Law_law_175 : decode code 175 = .ok (.iaload, 1) := by decide +kernel
theorem d_Law_law_176 : decode code 176 = .ok (.invokevirtual 75, 3) := by decide +kernel
theorem d_Law_law_179 : decode code 179 = .ok (.istore 6, 2) := by decide +kernel
theorem d_Law_law_181 : decode code 181 = .ok (.aload_n 2, 1) := by decide +kernel
theorem d_Law_law_182 : decode code 182 = .ok (.invokevirtual 69, 3) := by decide +kernel
theorem d_Law_law_185 : decode code 185 = .ok (.iload 5, 2) := by decide +kernel
theorem d_Law_law_187 : decode code 187 = .ok (.if_icmp .eq 5, 3) := by decide +kernel
theorem d_Law_law_190 : decode code 190 = .ok (.iconst 0, 1) := by decide +kernel
theorem d_Law_law_191 : decode code 191 = .ok (.ireturn, 1) := by decide +kernel
theorem d_Law_law_192 : decode code 192 = .ok (.iload 5, 2) := by decide +kernel
theorem d_Law_law_194 : decode code 194 = .ok (.ifCond .ne 15, 3) := by decide +kernel
theorem d_Law_law_197 : decode code 197 = .ok (.aload_n 3, 1) := by decide +kernel
theorem d_Law_law_198 : decode code 198 = .ok (.iconst 0, 1) := by decide +kernel
