theorem d_LW_law_0 : decode code 0 = .ok (.new 7, 3) := by decide +kernel
theorem d_LW_law_3 : decode code 3 = .ok (.dup, 1) := by decide +kernel
theorem d_LW_law_4 : decode code 4 = .ok (.invokespecial 9, 3) := by decide +kernel
theorem d_LW_law_7 : decode code 7 = .ok (.astore_n 1, 1) := by decide +kernel
theorem d_LW_law_8 : decode code 8 = .ok (.new 10, 3) := by decide +kernel
theorem d_LW_law_11 : decode code 11 = .ok (.dup, 1) := by decide +kernel
theorem d_LW_law_12 : decode code 12 = .ok (.invokespecial 12, 3) := by decide +kernel
theorem d_LW_law_15 : decode code 15 = .ok (.astore_n 2, 1) := by decide +kernel
theorem d_LW_law_16 : decode code 16 = .ok (.iconst 0, 1) := by decide +kernel
theorem d_LW_law_17 : decode code 17 = .ok (.istore_n 3, 1) := by decide +kernel
theorem d_LW_law_18 : decode code 18 = .ok (.iload_n 3, 1) := by decide +kernel
theorem d_LW_law_19 : decode code 19 = .ok (.aload_n 0, 1) := by decide +kernel
theorem d_LW_law_20 : decode code 20 = .ok (.arraylength, 1) := by decide +kernel
theorem d_LW_law_21 : decode code 21 = .ok (.iconst 5, 1) := by decide +kernel
theorem d_LW_law_22 : decode code 22 = .ok (.isub, 1) := by decide +kernel
theorem d_LW_law_23 : decode code 23 = .ok (.if_icmp .gt 654, 3) := by decide +kernel
theorem d_LW_law_26 : decode code 26 = .ok (.aload_n 0, 1) := by decide +kernel
theorem d_LW_law_27 : decode code 27 = .ok (.iload_n 3, 1) := by decide +kernel
theorem d_LW_law_28 : decode code 28 = .ok (.iaload, 1) := by decide +kernel
theorem d_LW_law_29 : decode code 29 = .ok (.bipush 31, 2) := by decide +kernel
theorem d_LW_law_31 : decode code 31 = .ok (.iand, 1) := by decide +kernel
theorem d_LW_law_32 : decode code 32 = .ok (.tableswitch 639 0 18 #[92, 115, 148, 181, 214, 247, 270, 283, 296, 319, 352, 385, 428, 451, 484, 507, 540, 593, 616], 92) := by decide +kernel
theorem d_LW_law_124 : decode code 124 = .ok (.aload_n 1, 1) := by decide +kernel
theorem d_LW_law_125 : decode code 125 = .ok (.aload_n 0, 1) := by decide +kernel
theorem d_LW_law_126 : decode code 126 = .ok (.iload_n 3, 1) := by decide +kernel
theorem d_LW_law_127 : decode code 127 = .ok (.iconst 1, 1) := by decide +kernel
theorem d_LW_law_128 : decode code 128 = .ok (.iadd, 1) := by decide +kernel
theorem d_LW_law_129 : decode code 129 = .ok (.iaload, 1) := by decide +kernel
theorem d_LW_law_130 : decode code 130 = .ok (.invokevirtual 13, 3) := by decide +kernel
theorem d_LW_law_133 : decode code 133 = .ok (.aload_n 2, 1) := by decide +kernel
theorem d_LW_law_134 : decode code 134 = .ok (.aload_n 0, 1) := by decide +kernel
theorem d_LW_law_135 : decode code 135 = .ok (.iload_n 3, 1) := by decide +kernel
theorem d_LW_law_136 : decode code 136 = .ok (.iconst 1, 1) := by decide +kernel
theorem d_LW_law_137 : decode code 137 = .ok (.iadd, 1) := by decide +kernel
theorem d_LW_law_138 : decode code 138 = .ok (.iaload, 1) := by decide +kernel
theorem d_LW_law_139 : decode code 139 = .ok (.invokevirtual 17, 3) := by decide +kernel
theorem d_LW_law_142 : decode code 142 = .ok (.if_icmp .eq 529, 3) := by decide +kernel
theorem d_LW_law_145 : decode code 145 = .ok (.iconst 0, 1) := by decide +kernel
theorem d_LW_law_146 : decode code 146 = .ok (.ireturn, 1) := by decide +kernel
theorem d_LW_law_147 : decode code 147 = .ok (.aload_n 1, 1) := by decide +kernel
theorem d_LW_law_148 : decode code 148 = .ok (.aload_n 0, 1) := by decide +kernel
theorem d_LW_law_149 : decode code 149 = .ok (.iload_n 3, 1) := by decide +kernel
theorem d_LW_law_150 : decode code 150 = .ok (.iconst 1, 1) := by decide +kernel
theorem d_LW_law_151 : decode code 151 = .ok (.iadd, 1) := by decide +kernel
theorem d_LW_law_152 : decode code 152 = .ok (.iaload, 1) := by decide +kernel
theorem d_LW_law_153 : decode code 153 = .ok (.aload_n 0, 1) := by decide +kernel
theorem d_LW_law_154 : decode code 154 = .ok (.iload_n 3, 1) := by decide +kernel
theorem d_LW_law_155 : decode code 155 = .ok (.iconst 2, 1) := by decide +kernel
theorem d_LW_law_156 : decode code 156 = .ok (.iadd, 1) := by decide +kernel
theorem d_LW_law_157 : decode code 157 = .ok (.iaload, 1) := by decide +kernel
theorem d_LW_law_158 : decode code 158 = .ok (.invokevirtual 18, 3) := by decide +kernel
theorem d_LW_law_161 : decode code 161 = .ok (.aload_n 2, 1) := by decide +kernel
theorem d_LW_law_162 : decode code 162 = .ok (.aload_n 0, 1) := by decide +kernel
theorem d_LW_law_163 : decode code 163 = .ok (.iload_n 3, 1) := by decide +kernel
theorem d_LW_law_164 : decode code 164 = .ok (.iconst 1, 1) := by decide +kernel
theorem d_LW_law_165 : decode code 165 = .ok (.iadd, 1) := by decide +kernel
theorem d_LW_law_166 : decode code 166 = .ok (.iaload, 1) := by decide +kernel
theorem d_LW_law_167 : decode code 167 = .ok (.aload_n 0, 1) := by decide +kernel
theorem d_LW_law_168 : decode code 168 = .ok (.iload_n 3, 1) := by decide +kernel
theorem d_LW_law_169 : decode code 169 = .ok (.iconst 2, 1) := by decide +kernel
theorem d_LW_law_170 : decode code 170 = .ok (.iadd, 1) := by decide +kernel
theorem d_LW_law_171 : decode code 171 = .ok (.iaload, 1) := by decide +kernel
theorem d_LW_law_172 : decode code 172 = .ok (.invokevirtual 22, 3) := by decide +kernel
theorem d_LW_law_175 : decode code 175 = .ok (.if_icmp .eq 496, 3) := by decide +kernel
theorem d_LW_law_178 : decode code 178 = .ok (.iconst 0, 1) := by decide +kernel
theorem d_LW_law_179 : decode code 179 = .ok (.ireturn, 1) := by decide +kernel
theorem d_LW_law_180 : decode code 180 = .ok (.aload_n 1, 1) := by decide +kernel
theorem d_LW_law_181 : decode code 181 = .ok (.aload_n 0, 1) := by decide +kernel
theorem d_LW_law_182 : decode code 182 = .ok (.iload_n 3, 1) := by decide +kernel
theorem d_LW_law_183 : decode code 183 = .ok (.iconst 1, 1) := by decide +kernel
theorem d_LW_law_184 : decode code 184 = .ok (.iadd, 1) := by decide +kernel
theorem d_LW_law_185 : decode code 185 = .ok (.iaload, 1) := by decide +kernel
theorem d_LW_law_186 : decode code 186 = .ok (.aload_n 0, 1) := by decide +kernel
theorem d_LW_law_187 : decode code 187 = .ok (.iload_n 3, 1) := by decide +kernel
theorem d_LW_law_188 : decode code 188 = .ok (.iconst 2, 1) := by decide +kernel
theorem d_LW_law_189 : decode code 189 = .ok (.iadd, 1) := by decide +kernel
theorem d_LW_law_190 : decode code 190 = .ok (.iaload, 1) := by decide +kernel
theorem d_LW_law_191 : decode code 191 = .ok (.invokevirtual 23, 3) := by decide +kernel
theorem d_LW_law_194 : decode code 194 = .ok (.aload_n 2, 1) := by decide +kernel
theorem d_LW_law_195 : decode code 195 = .ok (.aload_n 0, 1) := by decide +kernel
theorem d_LW_law_196 : decode code 196 = .ok (.iload_n 3, 1) := by decide +kernel
theorem d_LW_law_197 : decode code 197 = .ok (.iconst 1, 1) := by decide +kernel
theorem d_LW_law_198 : decode code 198 = .ok (.iadd, 1) := by decide +kernel
theorem d_LW_law_199 : decode code 199 = .ok (.iaload, 1) := by decide +kernel
theorem d_LW_law_200 : decode code 200 = .ok (.aload_n 0, 1) := by decide +kernel
theorem d_LW_law_201 : decode code 201 = .ok (.iload_n 3, 1) := by decide +kernel
theorem d_LW_law_202 : decode code 202 = .ok (.iconst 2, 1) := by decide +kernel
theorem d_LW_law_203 : decode code 203 = .ok (.iadd, 1) := by decide +kernel
theorem d_LW_law_204 : decode code 204 = .ok (.iaload, 1) := by decide +kernel
theorem d_LW_law_205 : decode code 205 = .ok (.invokevirtual 26, 3) := by decide +kernel
theorem d_LW_law_208 : decode code 208 = .ok (.if_icmp .eq 463, 3) := by decide +kernel
theorem d_LW_law_211 : decode code 211 = .ok (.iconst 0, 1) := by decide +kernel
theorem d_LW_law_212 : decode code 212 = .ok (.ireturn, 1) := by decide +kernel
theorem d_LW_law_213 : decode code 213 = .ok (.aload_n 1, 1) := by decide +kernel
theorem d_LW_law_214 : decode code 214 = .ok (.aload_n 0, 1) := by decide +kernel
theorem d_LW_law_215 : decode code 215 = .ok (.iload_n 3, 1) := by decide +kernel
theorem d_LW_law_216 : decode code 216 = .ok (.iconst 1, 1) := by decide +kernel
theorem d_LW_law_217 : decode code 217 = .ok (.iadd, 1) := by decide +kernel
theorem d_LW_law_218 : decode code 218 = .ok (.iaload, 1) := by decide +kernel
theorem d_LW_law_219 : decode code 219 = .ok (.aload_n 0, 1) := by decide +kernel
theorem d_LW_law_220 : decode code 220 = .ok (.iload_n 3, 1) := by decide +kernel
theorem d_LW_law_221 : decode code 221 = .ok (.iconst 2, 1) := by decide +kernel
theorem d_LW_law_222 : decode code 222 = .ok (.iadd, 1) := by decide +kernel
theorem d_LW_law_223 : decode code 223 = .ok (.iaload, 1) := by decide +kernel
theorem d_LW_law_224 : decode code 224 = .ok (.invokevirtual 27, 3) := by decide +kernel
theorem d_LW_law_227 : decode code 227 = .ok (.aload_n 2, 1) := by decide +kernel
theorem d_LW_law_228 : decode code 228 = .ok (.aload_n 0, 1) := by decide +kernel
theorem d_LW_law_229 : decode code 229 = .ok (.iload_n 3, 1) := by decide +kernel
theorem d_LW_law_230 : decode code 230 = .ok (.iconst 1, 1) := by decide +kernel
theorem d_LW_law_231 : decode code 231 = .ok (.iadd, 1) := by decide +kernel
theorem d_LW_law_232 : decode code 232 = .ok (.iaload, 1) := by decide +kernel
theorem d_LW_law_233 : decode code 233 = .ok (.aload_n 0, 1) := by decide +kernel
theorem d_LW_law_234 : decode code 234 = .ok (.iload_n 3, 1) := by decide +kernel
theorem d_LW_law_235 : decode code 235 = .ok (.iconst 2, 1) := by decide +kernel
theorem d_LW_law_236 : decode code 236 = .ok (.iadd, 1) := by decide +kernel
