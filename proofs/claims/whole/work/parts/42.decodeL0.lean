theorem d_L_0 : decode code 0 = .ok (.new 7, 3) := by decide +kernel
theorem d_L_3 : decode code 3 = .ok (.dup, 1) := by decide +kernel
theorem d_L_4 : decode code 4 = .ok (.invokespecial 9, 3) := by decide +kernel
theorem d_L_7 : decode code 7 = .ok (.astore_n 1, 1) := by decide +kernel
theorem d_L_8 : decode code 8 = .ok (.new 10, 3) := by decide +kernel
theorem d_L_11 : decode code 11 = .ok (.dup, 1) := by decide +kernel
theorem d_L_12 : decode code 12 = .ok (.invokespecial 12, 3) := by decide +kernel
theorem d_L_15 : decode code 15 = .ok (.astore_n 2, 1) := by decide +kernel
theorem d_L_16 : decode code 16 = .ok (.iconst 0, 1) := by decide +kernel
theorem d_L_17 : decode code 17 = .ok (.istore_n 3, 1) := by decide +kernel
theorem d_L_18 : decode code 18 = .ok (.iload_n 3, 1) := by decide +kernel
theorem d_L_19 : decode code 19 = .ok (.aload_n 0, 1) := by decide +kernel
theorem d_L_20 : decode code 20 = .ok (.arraylength, 1) := by decide +kernel
theorem d_L_21 : decode code 21 = .ok (.iconst 4, 1) := by decide +kernel
theorem d_L_22 : decode code 22 = .ok (.isub, 1) := by decide +kernel
theorem d_L_23 : decode code 23 = .ok (.if_icmp .gt 642, 3) := by decide +kernel
theorem d_L_26 : decode code 26 = .ok (.aload_n 0, 1) := by decide +kernel
theorem d_L_27 : decode code 27 = .ok (.iload_n 3, 1) := by decide +kernel
theorem d_L_28 : decode code 28 = .ok (.iaload, 1) := by decide +kernel
theorem d_L_29 : decode code 29 = .ok (.bipush 31, 2) := by decide +kernel
theorem d_L_31 : decode code 31 = .ok (.iand, 1) := by decide +kernel
theorem d_L_32 : decode code 32 = .ok (.tableswitch 627 0 19 #[96, 119, 152, 185, 208, 231, 254, 287, 300, 323, 346, 369, 382, 395, 428, 461, 484, 517, 550, 583], 96) := by decide +kernel
theorem d_L_128 : decode code 128 = .ok (.aload_n 1, 1) := by decide +kernel
theorem d_L_129 : decode code 129 = .ok (.aload_n 0, 1) := by decide +kernel
theorem d_L_130 : decode code 130 = .ok (.iload_n 3, 1) := by decide +kernel
theorem d_L_131 : decode code 131 = .ok (.iconst 1, 1) := by decide +kernel
theorem d_L_132 : decode code 132 = .ok (.iadd, 1) := by decide +kernel
theorem d_L_133 : decode code 133 = .ok (.iaload, 1) := by decide +kernel
theorem d_L_134 : decode code 134 = .ok (.invokevirtual 13, 3) := by decide +kernel
theorem d_L_137 : decode code 137 = .ok (.aload_n 2, 1) := by decide +kernel
theorem d_L_138 : decode code 138 = .ok (.aload_n 0, 1) := by decide +kernel
theorem d_L_139 : decode code 139 = .ok (.iload_n 3, 1) := by decide +kernel
theorem d_L_140 : decode code 140 = .ok (.iconst 1, 1) := by decide +kernel
theorem d_L_141 : decode code 141 = .ok (.iadd, 1) := by decide +kernel
theorem d_L_142 : decode code 142 = .ok (.iaload, 1) := by decide +kernel
theorem d_L_143 : decode code 143 = .ok (.invokevirtual 17, 3) := by decide +kernel
theorem d_L_146 : decode code 146 = .ok (.if_icmp .eq 513, 3) := by decide +kernel
theorem d_L_149 : decode code 149 = .ok (.iconst 0, 1) := by decide +kernel
theorem d_L_150 : decode code 150 = .ok (.ireturn, 1) := by decide +kernel
theorem d_L_151 : decode code 151 = .ok (.aload_n 1, 1) := by decide +kernel
theorem d_L_152 : decode code 152 = .ok (.aload_n 0, 1) := by decide +kernel
theorem d_L_153 : decode code 153 = .ok (.iload_n 3, 1) := by decide +kernel
theorem d_L_154 : decode code 154 = .ok (.iconst 1, 1) := by decide +kernel
theorem d_L_155 : decode code 155 = .ok (.iadd, 1) := by decide +kernel
theorem d_L_156 : decode code 156 = .ok (.iaload, 1) := by decide +kernel
theorem d_L_157 : decode code 157 = .ok (.aload_n 0, 1) := by decide +kernel
theorem d_L_158 : decode code 158 = .ok (.iload_n 3, 1) := by decide +kernel
theorem d_L_159 : decode code 159 = .ok (.iconst 2, 1) := by decide +kernel
theorem d_L_160 : decode code 160 = .ok (.iadd, 1) := by decide +kernel
theorem d_L_161 : decode code 161 = .ok (.iaload, 1) := by decide +kernel
theorem d_L_162 : decode code 162 = .ok (.invokevirtual 18, 3) := by decide +kernel
theorem d_L_165 : decode code 165 = .ok (.aload_n 2, 1) := by decide +kernel
theorem d_L_166 : decode code 166 = .ok (.aload_n 0, 1) := by decide +kernel
theorem d_L_167 : decode code 167 = .ok (.iload_n 3, 1) := by decide +kernel
theorem d_L_168 : decode code 168 = .ok (.iconst 1, 1) := by decide +kernel
theorem d_L_169 : decode code 169 = .ok (.iadd, 1) := by decide +kernel
theorem d_L_170 : decode code 170 = .ok (.iaload, 1) := by decide +kernel
theorem d_L_171 : decode code 171 = .ok (.aload_n 0, 1) := by decide +kernel
theorem d_L_172 : decode code 172 = .ok (.iload_n 3, 1) := by decide +kernel
theorem d_L_173 : decode code 173 = .ok (.iconst 2, 1) := by decide +kernel
theorem d_L_174 : decode code 174 = .ok (.iadd, 1) := by decide +kernel
theorem d_L_175 : decode code 175 = .ok (.iaload, 1) := by decide +kernel
theorem d_L_176 : decode code 176 = .ok (.invokevirtual 22, 3) := by decide +kernel
theorem d_L_179 : decode code 179 = .ok (.if_icmp .eq 480, 3) := by decide +kernel
theorem d_L_182 : decode code 182 = .ok (.iconst 0, 1) := by decide +kernel
theorem d_L_183 : decode code 183 = .ok (.ireturn, 1) := by decide +kernel
theorem d_L_184 : decode code 184 = .ok (.aload_n 1, 1) := by decide +kernel
theorem d_L_185 : decode code 185 = .ok (.aload_n 0, 1) := by decide +kernel
theorem d_L_186 : decode code 186 = .ok (.iload_n 3, 1) := by decide +kernel
theorem d_L_187 : decode code 187 = .ok (.iconst 1, 1) := by decide +kernel
theorem d_L_188 : decode code 188 = .ok (.iadd, 1) := by decide +kernel
theorem d_L_189 : decode code 189 = .ok (.iaload, 1) := by decide +kernel
theorem d_L_190 : decode code 190 = .ok (.aload_n 0, 1) := by decide +kernel
theorem d_L_191 : decode code 191 = .ok (.iload_n 3, 1) := by decide +kernel
theorem d_L_192 : decode code 192 = .ok (.iconst 2, 1) := by decide +kernel
theorem d_L_193 : decode code 193 = .ok (.iadd, 1) := by decide +kernel
theorem d_L_194 : decode code 194 = .ok (.iaload, 1) := by decide +kernel
theorem d_L_195 : decode code 195 = .ok (.invokevirtual 23, 3) := by decide +kernel
theorem d_L_198 : decode code 198 = .ok (.aload_n 2, 1) := by decide +kernel
theorem d_L_199 : decode code 199 = .ok (.aload_n 0, 1) := by decide +kernel
theorem d_L_200 : decode code 200 = .ok (.iload_n 3, 1) := by decide +kernel
theorem d_L_201 : decode code 201 = .ok (.iconst 1, 1) := by decide +kernel
theorem d_L_202 : decode code 202 = .ok (.iadd, 1) := by decide +kernel
theorem d_L_203 : decode code 203 = .ok (.iaload, 1) := by decide +kernel
theorem d_L_204 : decode code 204 = .ok (.aload_n 0, 1) := by decide +kernel
theorem d_L_205 : decode code 205 = .ok (.iload_n 3, 1) := by decide +kernel
theorem d_L_206 : decode code 206 = .ok (.iconst 2, 1) := by decide +kernel
theorem d_L_207 : decode code 207 = .ok (.iadd, 1) := by decide +kernel
theorem d_L_208 : decode code 208 = .ok (.iaload, 1) := by decide +kernel
theorem d_L_209 : decode code 209 = .ok (.invokevirtual 26, 3) := by decide +kernel
theorem d_L_212 : decode code 212 = .ok (.if_icmp .eq 447, 3) := by decide +kernel
theorem d_L_215 : decode code 215 = .ok (.iconst 0, 1) := by decide +kernel
theorem d_L_216 : decode code 216 = .ok (.ireturn, 1) := by decide +kernel
theorem d_L_217 : decode code 217 = .ok (.aload_n 1, 1) := by decide +kernel
theorem d_L_218 : decode code 218 = .ok (.aload_n 0, 1) := by decide +kernel
theorem d_L_219 : decode code 219 = .ok (.iload_n 3, 1) := by decide +kernel
theorem d_L_220 : decode code 220 = .ok (.iconst 1, 1) := by decide +kernel
theorem d_L_221 : decode code 221 = .ok (.iadd, 1) := by decide +kernel
theorem d_L_222 : decode code 222 = .ok (.iaload, 1) := by decide +kernel
theorem d_L_223 : decode code 223 = .ok (.invokevirtual 27, 3) := by decide +kernel
theorem d_L_226 : decode code 226 = .ok (.aload_n 2, 1) := by decide +kernel
theorem d_L_227 : decode code 227 = .ok (.aload_n 0, 1) := by decide +kernel
theorem d_L_228 : decode code 228 = .ok (.iload_n 3, 1) := by decide +kernel
theorem d_L_229 : decode code 229 = .ok (.iconst 1, 1) := by decide +kernel
theorem d_L_230 : decode code 230 = .ok (.iadd, 1) := by decide +kernel
theorem d_L_231 : decode code 231 = .ok (.iaload, 1) := by decide +kernel
theorem d_L_232 : decode code 232 = .ok (.invokevirtual 30, 3) := by decide +kernel
theorem d_L_235 : decode code 235 = .ok (.if_icmp .eq 424, 3) := by decide +kernel
theorem d_L_238 : decode code 238 = .ok (.iconst 0, 1) := by decide +kernel
theorem d_L_239 : decode code 239 = .ok (.ireturn, 1) := by decide +kernel
