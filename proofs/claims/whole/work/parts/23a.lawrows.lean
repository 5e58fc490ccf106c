theorem d_LW_law_0 : decode code 0 = .ok (.new 7, 3) := by decide +kernel
theorem d_LW_law_3 : decode code 3 = .ok (.dup, 1) := by decide +kernel
theorem d_LW_law_4 : decode code 4 = .ok (.invokespecial 9, 3) := by decide +kernel
theorem d_LW_law_7 : decode code 7 = .ok (.astore_n 1, 1) := by decide +kernel
theorem d_LW_law_8 : decode code 8 = .ok (.new 10, 3) := by decide +kernel
theorem d_LW_law_11 : decode code 11 = .ok (.dup, 1) := by decide +kernel
theorem d_LW_law_12 : decode code 12 = .ok (.invokespecial 12, 3) := by decide +kernel
theorem d_LW_law_15 : decode code 15 = .ok (.astore_n 2, 1) := by decide +kernel
theorem d_LW_law_16 : decode code 16 = .ok (.iconst 0, 1) := by decide +kernel
theorem d_LW_law_17 : decode code 17 = .ok (.istore_n 3, 1) := by decide +kernel
theorem d_LW_law_18 : decode code 18 = .ok (.iload_n 3, 1) := by decide +kernel
theorem d_LW_law_19 : decode code 19 = .ok (.aload_n 0, 1) := by decide +kernel
theorem d_LW_law_20 : decode code 20 = .ok (.arraylength, 1) := by decide +kernel
theorem d_LW_law_21 : decode code 21 = .ok (.iconst 4, 1) := by decide +kernel
theorem d_LW_law_22 : decode code 22 = .ok (.isub, 1) := by decide +kernel
theorem d_LW_law_23 : decode code 23 = .ok (.if_icmp .gt 608, 3) := by decide +kernel
theorem d_LW_law_26 : decode code 26 = .ok (.aload_n 0, 1) := by decide +kernel
theorem d_LW_law_27 : decode code 27 = .ok (.iload_n 3, 1) := by decide +kernel
theorem d_LW_law_28 : decode code 28 = .ok (.iaload, 1) := by decide +kernel
theorem d_LW_law_29 : decode code 29 = .ok (.bipush 15, 2) := by decide +kernel
theorem d_LW_law_31 : decode code 31 = .ok (.iand, 1) := by decide +kernel
theorem d_LW_law_32 : decode code 32 = .ok (.tableswitch 593 0 14 #[76, 99, 158, 191, 214, 237, 270, 303, 336, 359, 402, 465, 514, 537, 560], 76) := by decide +kernel
theorem d_LW_law_108 : decode code 108 = .ok (.aload_n 1, 1) := by decide +kernel
theorem d_LW_law_109 : decode code 109 = .ok (.aload_n 0, 1) := by decide +kernel
theorem d_LW_law_110 : decode code 110 = .ok (.iload_n 3, 1) := by decide +kernel
theorem d_LW_law_111 : decode code 111 = .ok (.iconst 1, 1) := by decide +kernel
theorem d_LW_law_112 : decode code 112 = .ok (.iadd, 1) := by decide +kernel
theorem d_LW_law_113 : decode code 113 = .ok (.iaload, 1) := by decide +kernel
theorem d_LW_law_114 : decode code 114 = .ok (.invokevirtual 13, 3) := by decide +kernel
theorem d_LW_law_117 : decode code 117 = .ok (.aload_n 2, 1) := by decide +kernel
theorem d_LW_law_118 : decode code 118 = .ok (.aload_n 0, 1) := by decide +kernel
theorem d_LW_law_119 : decode code 119 = .ok (.iload_n 3, 1) := by decide +kernel
theorem d_LW_law_120 : decode code 120 = .ok (.iconst 1, 1) := by decide +kernel
theorem d_LW_law_121 : decode code 121 = .ok (.iadd, 1) := by decide +kernel
theorem d_LW_law_122 : decode code 122 = .ok (.iaload, 1) := by decide +kernel
theorem d_LW_law_123 : decode code 123 = .ok (.invokevirtual 17, 3) := by decide +kernel
theorem d_LW_law_126 : decode code 126 = .ok (.if_icmp .eq 499, 3) := by decide +kernel
theorem d_LW_law_129 : decode code 129 = .ok (.iconst 0, 1) := by decide +kernel
theorem d_LW_law_130 : decode code 130 = .ok (.ireturn, 1) := by decide +kernel
theorem d_LW_law_131 : decode code 131 = .ok (.aload_n 1, 1) := by decide +kernel
theorem d_LW_law_132 : decode code 132 = .ok (.aload_n 0, 1) := by decide +kernel
theorem d_LW_law_133 : decode code 133 = .ok (.iload_n 3, 1) := by decide +kernel
theorem d_LW_law_134 : decode code 134 = .ok (.iconst 1, 1) := by decide +kernel
theorem d_LW_law_135 : decode code 135 = .ok (.iadd, 1) := by decide +kernel
theorem d_LW_law_136 : decode code 136 = .ok (.iaload, 1) := by decide +kernel
theorem d_LW_law_137 : decode code 137 = .ok (.aload_n 0, 1) := by decide +kernel
theorem d_LW_law_138 : decode code 138 = .ok (.iload_n 3, 1) := by decide +kernel
theorem d_LW_law_139 : decode code 139 = .ok (.iconst 2, 1) := by decide +kernel
theorem d_LW_law_140 : decode code 140 = .ok (.iadd, 1) := by decide +kernel
theorem d_LW_law_141 : decode code 141 = .ok (.iaload, 1) := by decide +kernel
theorem d_LW_law_142 : decode code 142 = .ok (.aload_n 0, 1) := by decide +kernel
theorem d_LW_law_143 : decode code 143 = .ok (.iload_n 3, 1) := by decide +kernel
theorem d_LW_law_144 : decode code 144 = .ok (.iconst 3, 1) := by decide +kernel
theorem d_LW_law_145 : decode code 145 = .ok (.iadd, 1) := by decide +kernel
theorem d_LW_law_146 : decode code 146 = .ok (.iaload, 1) := by decide +kernel
theorem d_LW_law_147 : decode code 147 = .ok (.ifCond .eq 7, 3) := by decide +kernel
theorem d_LW_law_150 : decode code 150 = .ok (.iconst 1, 1) := by decide +kernel
theorem d_LW_law_151 : decode code 151 = .ok (.goto 4, 3) := by decide +kernel
theorem d_LW_law_154 : decode code 154 = .ok (.iconst 0, 1) := by decide +kernel
theorem d_LW_law_155 : decode code 155 = .ok (.invokevirtual 18, 3) := by decide +kernel
theorem d_LW_law_158 : decode code 158 = .ok (.aload_n 2, 1) := by decide +kernel
theorem d_LW_law_159 : decode code 159 = .ok (.aload_n 0, 1) := by decide +kernel
theorem d_LW_law_160 : decode code 160 = .ok (.iload_n 3, 1) := by decide +kernel
theorem d_LW_law_161 : decode code 161 = .ok (.iconst 1, 1) := by decide +kernel
theorem d_LW_law_162 : decode code 162 = .ok (.iadd, 1) := by decide +kernel
theorem d_LW_law_163 : decode code 163 = .ok (.iaload, 1) := by decide +kernel
theorem d_LW_law_164 : decode code 164 = .ok (.aload_n 0, 1) := by decide +kernel
theorem d_LW_law_165 : decode code 165 = .ok (.iload_n 3, 1) := by decide +kernel
theorem d_LW_law_166 : decode code 166 = .ok (.iconst 2, 1) := by decide +kernel
theorem d_LW_law_167 : decode code 167 = .ok (.iadd, 1) := by decide +kernel
theorem d_LW_law_168 : decode code 168 = .ok (.iaload, 1) := by decide +kernel
theorem d_LW_law_169 : decode code 169 = .ok (.aload_n 0, 1) := by decide +kernel
theorem d_LW_law_170 : decode code 170 = .ok (.iload_n 3, 1) := by decide +kernel
theorem d_LW_law_171 : decode code 171 = .ok (.iconst 3, 1) := by decide +kernel
theorem d_LW_law_172 : decode code 172 = .ok (.iadd, 1) := by decide +kernel
theorem d_LW_law_173 : decode code 173 = .ok (.iaload, 1) := by decide +kernel
theorem d_LW_law_174 : decode code 174 = .ok (.ifCond .eq 7, 3) := by decide +kernel
theorem d_LW_law_177 : decode code 177 = .ok (.iconst 1, 1) := by decide +kernel
theorem d_LW_law_178 : decode code 178 = .ok (.goto 4, 3) := by decide +kernel
theorem d_LW_law_181 : decode code 181 = .ok (.iconst 0, 1) := by decide +kernel
theorem d_LW_law_182 : decode code 182 = .ok (.invokevirtual 22, 3) := by decide +kernel
theorem d_LW_law_185 : decode code 185 = .ok (.if_icmp .eq 440, 3) := by decide +kernel
theorem d_LW_law_188 : decode code 188 = .ok (.iconst 0, 1) := by decide +kernel
theorem d_LW_law_189 : decode code 189 = .ok (.ireturn, 1) := by decide +kernel
theorem d_LW_law_190 : decode code 190 = .ok (.aload_n 1, 1) := by decide +kernel
theorem d_LW_law_191 : decode code 191 = .ok (.aload_n 0, 1) := by decide +kernel
theorem d_LW_law_192 : decode code 192 = .ok (.iload_n 3, 1) := by decide +kernel
theorem d_LW_law_193 : decode code 193 = .ok (.iconst 1, 1) := by decide +kernel
theorem d_LW_law_194 : decode code 194 = .ok (.iadd, 1) := by decide +kernel
theorem d_LW_law_195 : decode code 195 = .ok (.iaload, 1) := by decide +kernel
theorem d_LW_law_196 : decode code 196 = .ok (.aload_n 0, 1) := by decide +kernel
theorem d_LW_law_197 : decode code 197 = .ok (.iload_n 3, 1) := by decide +kernel
theorem d_LW_law_198 : decode code 198 = .ok (.iconst 2, 1) := by decide +kernel
theorem d_LW_law_199 : decode code 199 = .ok (.iadd, 1) := by decide +kernel
theorem d_LW_law_200 : decode code 200 = .ok (.iaload, 1) := by decide +kernel
theorem d_LW_law_201 : decode code 201 = .ok (.invokevirtual 23, 3) := by decide +kernel
theorem d_LW_law_204 : decode code 204 = .ok (.aload_n 2, 1) := by decide +kernel
theorem d_LW_law_205 : decode code 205 = .ok (.aload_n 0, 1) := by decide +kernel
theorem d_LW_law_206 : decode code 206 = .ok (.iload_n 3, 1) := by decide +kernel
theorem d_LW_law_207 : decode code 207 = .ok (.iconst 1, 1) := by decide +kernel
theorem d_LW_law_208 : decode code 208 = .ok (.iadd, 1) := by decide +kernel
theorem d_LW_law_209 : decode code 209 = .ok (.iaload, 1) := by decide +kernel
theorem d_LW_law_210 : decode code 210 = .ok (.aload_n 0, 1) := by decide +kernel
theorem d_LW_law_211 : decode code 211 = .ok (.iload_n 3, 1) := by decide +kernel
theorem d_LW_law_212 : decode code 212 = .ok (.iconst 2, 1) := by decide +kernel
theorem d_LW_law_213 : decode code 213 = .ok (.iadd, 1) := by decide +kernel
theorem d_LW_law_214 : decode code 214 = .ok (.iaload, 1) := by decide +kernel
theorem d_LW_law_215 : decode code 215 = .ok (.invokevirtual 27, 3) := by decide +kernel
theorem d_LW_law_218 : decode code 218 = .ok (.if_icmp .eq 407, 3) := by decide +kernel
theorem d_LW_law_221 : decode code 221 = .ok (.iconst 0, 1) := by decide +kernel
theorem d_LW_law_222 : decode code 222 = .ok (.ireturn, 1) := by decide +kernel
theorem d_LW_law_223 : decode code 223 = .ok (.aload_n 1, 1) := by decide +kernel
theorem d_LW_law_224 : decode code 224 = .ok (.aload_n 0, 1) := by decide +kernel
theorem d_LW_law_225 : decode code 225 = .ok (.iload_n 3, 1) := by decide +kernel
theorem d_LW_law_226 : decode code 226 = .ok (.iconst 1, 1) := by decide +kernel
theorem d_LW_law_227 : decode code 227 = .ok (.iadd, 1) := by decide +kernel
theorem d_LW_law_228 : decode code 228 = .ok (.iaload, 1) := by decide +kernel
theorem d_LW_law_229 : decode code 229 = .ok (.invokevirtual 28, 3) := by decide +kernel
theorem d_LW_law_232 : decode code 232 = .ok (.aload_n 2, 1) := by decide +kernel
theorem d_LW_law_233 : decode code 233 = .ok (.aload_n 0, 1) := by decide +kernel
