theorem d_lw_0 : decode code 0 = .ok (.new 8, 3) := by decide +kernel
theorem d_lw_3 : decode code 3 = .ok (.dup, 1) := by decide +kernel
theorem d_lw_4 : decode code 4 = .ok (.invokespecial 38, 3) := by decide +kernel
theorem d_lw_7 : decode code 7 = .ok (.astore_n 1, 1) := by decide +kernel
theorem d_lw_8 : decode code 8 = .ok (.new 39, 3) := by decide +kernel
theorem d_lw_11 : decode code 11 = .ok (.dup, 1) := by decide +kernel
theorem d_lw_12 : decode code 12 = .ok (.invokespecial 41, 3) := by decide +kernel
theorem d_lw_15 : decode code 15 = .ok (.astore_n 2, 1) := by decide +kernel
theorem d_lw_16 : decode code 16 = .ok (.iconst 1, 1) := by decide +kernel
theorem d_lw_17 : decode code 17 = .ok (.newarray .long, 2) := by decide +kernel
theorem d_lw_19 : decode code 19 = .ok (.astore_n 3, 1) := by decide +kernel
theorem d_lw_20 : decode code 20 = .ok (.iconst 0, 1) := by decide +kernel
theorem d_lw_21 : decode code 21 = .ok (.istore 4, 2) := by decide +kernel
theorem d_lw_23 : decode code 23 = .ok (.iload 4, 2) := by decide +kernel
theorem d_lw_25 : decode code 25 = .ok (.aload_n 0, 1) := by decide +kernel
theorem d_lw_26 : decode code 26 = .ok (.arraylength, 1) := by decide +kernel
theorem d_lw_27 : decode code 27 = .ok (.bipush 7, 2) := by decide +kernel
theorem d_lw_29 : decode code 29 = .ok (.isub, 1) := by decide +kernel
theorem d_lw_30 : decode code 30 = .ok (.if_icmp .gt 1172, 3) := by decide +kernel
theorem d_lw_33 : decode code 33 = .ok (.aload_n 0, 1) := by decide +kernel
theorem d_lw_34 : decode code 34 = .ok (.iload 4, 2) := by decide +kernel
theorem d_lw_36 : decode code 36 = .ok (.iaload, 1) := by decide +kernel
theorem d_lw_37 : decode code 37 = .ok (.bipush 31, 2) := by decide +kernel
theorem d_lw_39 : decode code 39 = .ok (.iand, 1) := by decide +kernel
theorem d_lw_40 : decode code 40 = .ok (.tableswitch 1156 0 21 #[104, 153, 190, 215, 238, 294, 350, 406, 530, 598, 666, 703, 728, 753, 778, 905, 954, 980, 1006, 1043, 1081, 1131], 104) := by decide +kernel
theorem d_lw_144 : decode code 144 = .ok (.aload_n 1, 1) := by decide +kernel
theorem d_lw_145 : decode code 145 = .ok (.aload_n 0, 1) := by decide +kernel
theorem d_lw_146 : decode code 146 = .ok (.iload 4, 2) := by decide +kernel
theorem d_lw_148 : decode code 148 = .ok (.iconst 1, 1) := by decide +kernel
theorem d_lw_149 : decode code 149 = .ok (.iadd, 1) := by decide +kernel
theorem d_lw_150 : decode code 150 = .ok (.iaload, 1) := by decide +kernel
theorem d_lw_151 : decode code 151 = .ok (.aload_n 0, 1) := by decide +kernel
theorem d_lw_152 : decode code 152 = .ok (.iload 4, 2) := by decide +kernel
theorem d_lw_154 : decode code 154 = .ok (.iconst 2, 1) := by decide +kernel
theorem d_lw_155 : decode code 155 = .ok (.iadd, 1) := by decide +kernel
theorem d_lw_156 : decode code 156 = .ok (.iaload, 1) := by decide +kernel
theorem d_lw_157 : decode code 157 = .ok (.aload_n 0, 1) := by decide +kernel
theorem d_lw_158 : decode code 158 = .ok (.iload 4, 2) := by decide +kernel
theorem d_lw_160 : decode code 160 = .ok (.iconst 3, 1) := by decide +kernel
theorem d_lw_161 : decode code 161 = .ok (.iadd, 1) := by decide +kernel
theorem d_lw_162 : decode code 162 = .ok (.iaload, 1) := by decide +kernel
theorem d_lw_163 : decode code 163 = .ok (.invokevirtual 42, 3) := by decide +kernel
theorem d_lw_166 : decode code 166 = .ok (.aload_n 2, 1) := by decide +kernel
theorem d_lw_167 : decode code 167 = .ok (.aload_n 0, 1) := by decide +kernel
theorem d_lw_168 : decode code 168 = .ok (.iload 4, 2) := by decide +kernel
theorem d_lw_170 : decode code 170 = .ok (.iconst 1, 1) := by decide +kernel
theorem d_lw_171 : decode code 171 = .ok (.iadd, 1) := by decide +kernel
theorem d_lw_172 : decode code 172 = .ok (.iaload, 1) := by decide +kernel
theorem d_lw_173 : decode code 173 = .ok (.aload_n 0, 1) := by decide +kernel
theorem d_lw_174 : decode code 174 = .ok (.iload 4, 2) := by decide +kernel
theorem d_lw_176 : decode code 176 = .ok (.iconst 2, 1) := by decide +kernel
theorem d_lw_177 : decode code 177 = .ok (.iadd, 1) := by decide +kernel
theorem d_lw_178 : decode code 178 = .ok (.iaload, 1) := by decide +kernel
theorem d_lw_179 : decode code 179 = .ok (.aload_n 0, 1) := by decide +kernel
theorem d_lw_180 : decode code 180 = .ok (.iload 4, 2) := by decide +kernel
theorem d_lw_182 : decode code 182 = .ok (.iconst 3, 1) := by decide +kernel
theorem d_lw_183 : decode code 183 = .ok (.iadd, 1) := by decide +kernel
theorem d_lw_184 : decode code 184 = .ok (.iaload, 1) := by decide +kernel
theorem d_lw_185 : decode code 185 = .ok (.invokevirtual 46, 3) := by decide +kernel
theorem d_lw_188 : decode code 188 = .ok (.if_icmp .eq 1008, 3) := by decide +kernel
theorem d_lw_191 : decode code 191 = .ok (.iconst 0, 1) := by decide +kernel
theorem d_lw_192 : decode code 192 = .ok (.ireturn, 1) := by decide +kernel
theorem d_lw_193 : decode code 193 = .ok (.aload_n 1, 1) := by decide +kernel
theorem d_lw_194 : decode code 194 = .ok (.aload_n 0, 1) := by decide +kernel
theorem d_lw_195 : decode code 195 = .ok (.iload 4, 2) := by decide +kernel
theorem d_lw_197 : decode code 197 = .ok (.iconst 1, 1) := by decide +kernel
theorem d_lw_198 : decode code 198 = .ok (.iadd, 1) := by decide +kernel
theorem d_lw_199 : decode code 199 = .ok (.iaload, 1) := by decide +kernel
theorem d_lw_200 : decode code 200 = .ok (.aload_n 0, 1) := by decide +kernel
theorem d_lw_201 : decode code 201 = .ok (.iload 4, 2) := by decide +kernel
theorem d_lw_203 : decode code 203 = .ok (.iconst 2, 1) := by decide +kernel
theorem d_lw_204 : decode code 204 = .ok (.iadd, 1) := by decide +kernel
theorem d_lw_205 : decode code 205 = .ok (.iaload, 1) := by decide +kernel
theorem d_lw_206 : decode code 206 = .ok (.invokevirtual 47, 3) := by decide +kernel
theorem d_lw_209 : decode code 209 = .ok (.aload_n 2, 1) := by decide +kernel
theorem d_lw_210 : decode code 210 = .ok (.aload_n 0, 1) := by decide +kernel
theorem d_lw_211 : decode code 211 = .ok (.iload 4, 2) := by decide +kernel
theorem d_lw_213 : decode code 213 = .ok (.iconst 1, 1) := by decide +kernel
theorem d_lw_214 : decode code 214 = .ok (.iadd, 1) := by decide +kernel
theorem d_lw_215 : decode code 215 = .ok (.iaload, 1) := by decide +kernel
theorem d_lw_216 : decode code 216 = .ok (.aload_n 0, 1) := by decide +kernel
theorem d_lw_217 : decode code 217 = .ok (.iload 4, 2) := by decide +kernel
theorem d_lw_219 : decode code 219 = .ok (.iconst 2, 1) := by decide +kernel
theorem d_lw_220 : decode code 220 = .ok (.iadd, 1) := by decide +kernel
theorem d_lw_221 : decode code 221 = .ok (.iaload, 1) := by decide +kernel
theorem d_lw_222 : decode code 222 = .ok (.invokevirtual 51, 3) := by decide +kernel
theorem d_lw_225 : decode code 225 = .ok (.if_icmp .eq 971, 3) := by decide +kernel
theorem d_lw_228 : decode code 228 = .ok (.iconst 0, 1) := by decide +kernel
theorem d_lw_229 : decode code 229 = .ok (.ireturn, 1) := by decide +kernel
theorem d_lw_230 : decode code 230 = .ok (.aload_n 1, 1) := by decide +kernel
theorem d_lw_231 : decode code 231 = .ok (.aload_n 0, 1) := by decide +kernel
theorem d_lw_232 : decode code 232 = .ok (.iload 4, 2) := by decide +kernel
theorem d_lw_234 : decode code 234 = .ok (.iconst 1, 1) := by decide +kernel
theorem d_lw_235 : decode code 235 = .ok (.iadd, 1) := by decide +kernel
theorem d_lw_236 : decode code 236 = .ok (.iaload, 1) := by decide +kernel
theorem d_lw_237 : decode code 237 = .ok (.invokevirtual 52, 3) := by decide +kernel
theorem d_lw_240 : decode code 240 = .ok (.aload_n 2, 1) := by decide +kernel
theorem d_lw_241 : decode code 241 = .ok (.aload_n 0, 1) := by decide +kernel
theorem d_lw_242 : decode code 242 = .ok (.iload 4, 2) := by decide +kernel
theorem d_lw_244 : decode code 244 = .ok (.iconst 1, 1) := by decide +kernel
